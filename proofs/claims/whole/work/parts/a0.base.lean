section START
/-- a static field as its class lays it, the cell below our begin -/
def lS (C n d : String) (base : Nat) (U : State) : Prop := ∃ (c : ClassId) (k : Class) (i : Nat) (f : Field) (a : Nat) (cell : Cell), U.vm.findClass C = some c ∧ U.fieldFound? C n d = some (c, k, i, f) ∧ f.isStatic = true ∧ k.statics = some a ∧ U.heap[a]? = some cell ∧ cell.vm.isStatics = true ∧ cell.cls = c ∧ f.slot < cell.slots.size ∧ k.staticTypes[f.slot]? = some f.type ∧ ¬ base ≤ a
theorem lS.be {C n d : String} {base : Nat} {U : State} {args : Array Value} (h : lS C n d base U) : (Cond.laysStatic C n d).before args U = true := by
  obtain ⟨c, k, i, f, a, cell, h1, h2, h3, h4, h5, h6, h7, h8, h9, -⟩ := h
  exact Cond.laysStatic_of h1 h2 h3 h4 h5 h6 h7 h8 h9
theorem lS.of {C n d : String} {base : Nat} {U : State} {args : Array Value} (hb : base = U.heap.size) (h : (Cond.laysStatic C n d).before args U = true) : lS C n d base U := by
  obtain ⟨c, k, i, f, a, cell, h1, h2, h3, h4, h5, h6, h7, h8, h9⟩ := Cond.laysStatic_spec h
  exact ⟨c, k, i, f, a, cell, h1, h2, h3, h4, h5, h6, h7, h8, h9, by rw [hb]; exact Nat.not_le.mpr (Array.getElem?_eq_some_iff.mp h5).1⟩
theorem lS.go {C n d : String} {base : Nat} {U V : State} (hvm : U.vm.Alike V.vm) (hq : ∀ q : Nat, q < U.heap.size → ¬ base ≤ q → V.heap[q]? = U.heap[q]?) (h : lS C n d base U) : lS C n d base V := by
  obtain ⟨c, k, i, f, a, cell, h1, h2, h3, h4, h5, h6, h7, h8, h9, h10⟩ := h
  obtain ⟨k', hi', he⟩ := State.fieldFound?_setVm hvm h2
  exact ⟨c, k', i, f, a, cell, by rw [hvm.findClass]; exact h1, hi', h3, by rw [he]; exact h4, by rw [hq a (Array.getElem?_eq_some_iff.mp h5).1 h10]; exact h5, h6, h7, h8, by rw [he]; exact h9, h10⟩
/-- what lies below our cells: the script, two texts, Throwable's two statics, words that no method asks but the throw -/
def lw_L (b L : Nat) (xs : Nat → Int32) (sg s170 base : Nat) : State → Prop := fun U => (va_X b L xs U U.heap ∧ b < U.heap.size) ∧ (vk_R "MailHeads$Words" 32 "<>:;@,.)]\\" sg U ∧ vk_R "MailHeads" 170 "no such field" s170 U) ∧ (va_Zq Bundle.tN "UNASSIGNED_STACK" Bundle.steD (fun q => base ≤ q) U U.heap ∧ va_Zq Bundle.tN "SUPPRESSED_SENTINEL" Bundle.listD (fun q => base ≤ q) U U.heap) ∧ (lS Bundle.tN "UNASSIGNED_STACK" Bundle.steD base U ∧ lS Bundle.tN "SUPPRESSED_SENTINEL" Bundle.listD base U) ∧ ∀ w ∈ tx_ws.drop 4, w.before #[] U = true
theorem tx_w2 : ∀ w ∈ tx_ws.drop 4, w.onTables = true ∧ w.keepsFace = true := by decide +kernel
theorem lw_L_ok {b L : Nat} {xs : Nat → Int32} {sg s170 base : Nat} (hb : b < base) {U V : State} (hW : U.WarmedH V.vm) (hq : ∀ q : Nat, q < U.heap.size → ¬ base ≤ q → V.heap[q]? = U.heap[q]?) (k : lw_L b L xs sg s170 base U) : lw_L b L xs sg s170 base V := by
  obtain ⟨⟨k1, k2⟩, ⟨k3, k4⟩, ⟨k5, k6⟩, ⟨k8, k9⟩, k7⟩ := k
  have e := hq b k2 (by omega)
  have k1' : va_X b L xs V V.heap := va_X.moved hW.alike (k1.kept e)
  refine ⟨⟨k1', ?_⟩, ⟨vk_R.warm hW k3, vk_R.warm hW k4⟩, ⟨va_Zq.moved hW.alike (k5.kept hq), va_Zq.moved hW.alike (k6.kept hq)⟩, ⟨k8.go hW.alike hq, k9.go hW.alike hq⟩, fun w hw => ?_⟩
  · obtain ⟨scr, h1, -⟩ := k1'
    exact (Array.getElem?_eq_some_iff.mp h1).1
  · exact va_tabs (tx_w2 w hw).1 (u := U.setVm V.vm) rfl (Cond.before_shiftedFace (State.Shifted.of_warmed hW) w (tx_w2 w hw).2 (k7 w hw))
abbrev lw_G (l : Launch) (b L : Nat) (xs : Nat → Int32) (sg s170 base : Nat) (D : va_G) (cI cZ cJ : ClassId) : gl_G := (l, base, D, [(cI, .int), (cZ, .boolean), (cJ, .long)], lw_L b L xs sg s170 base)
section
variable {l : Launch} {b L : Nat} {xs : Nat → Int32} {sg s170 base : Nat} {D : va_G} {cI cZ cJ : ClassId}
theorem lw_gok (hb : b < base) : gl_ok (lw_G l b L xs sg s170 base D cI cZ cJ) := fun _ _ hW hq k => lw_L_ok hb hW hq k
theorem lw_gsc (hb : b < base) : gl_sc (lw_G l b L xs sg s170 base D cI cZ cJ) b L xs := fun _ k => ⟨k.1.1, k.1.2, Nat.not_le.mpr hb⟩
theorem lw_gsg : gl_sg (lw_G l b L xs sg s170 base D cI cZ cJ) sg := fun _ k => k.2.1.1
theorem lw_gex (hf : l.flags = pinnedFlags ++ [noTraceFlag]) : gl_ex (lw_G l b L xs sg s170 base D cI cZ cJ) s170 := by
  refine ⟨fun _ k => k.2.1.2, fun U args k w hw => ?_, fun e ha => Launch.traces_off hf ha⟩
  rcases List.mem_cons.mp hw with e | hw
  · rw [e]
    exact va_Zq_ref k.2.2.1.1
  · rcases List.mem_cons.mp hw with e | hw
    · rw [e]
      exact va_Zq_ref k.2.2.1.2
    · rcases List.mem_cons.mp hw with e | hw
      · rw [e]
        exact k.2.2.2.1.1.be
      · rcases List.mem_cons.mp hw with e | hw
        · rw [e]
          exact k.2.2.2.1.2.be
        · exact va_tabs (tx_w2 w hw).1 (u := U) rfl (k.2.2.2.2 w hw)
end
theorem lw_kn {s : State} {args : Array Value} (hta : ∀ w ∈ tb_all, w.before args s = true) : ∃ D : va_G, ∀ (k : Nat) (q : vw_C), vwCl[k]? = some q → u_Kn s q.1 q.2.1 q.2.2 (D.1 k) (D.2 k) := by
  have hall : ∀ k : Nat, ∃ d : ClassId × (Nat → Nat), ∀ q : vw_C, vwCl[k]? = some q → u_Kn s q.1 q.2.1 q.2.2 d.1 d.2 := by
    intro k
    have mk : ∀ {C : String} {T : u_T} {N : Nat}, (∀ w ∈ u_ws C T N, w ∈ tb_all) → Cond.instantiable C N ∈ tb_all → vwCl[k]? = some (C, T, N) → ∃ d : ClassId × (Nat → Nat), ∀ q : vw_C, vwCl[k]? = some q → u_Kn s q.1 q.2.1 q.2.2 d.1 d.2 := by
      intro C T N h1 h2 h3
      obtain ⟨cC, iS, K⟩ := u_known hta h1 (hta _ h2)
      refine ⟨(cC, iS), fun q hq => ?_⟩
      rw [h3] at hq
      cases hq
      exact K
    match k with
    | 0 => exact mk tb_Mail tw_24 rfl
    | 1 => exact mk tb_Row tw_32 rfl
    | 2 => exact mk tb_Head tw_46 rfl
    | 3 => exact mk tb_Texts tw_52 rfl
    | 4 => exact mk tb_Words tw_97 rfl
    | 5 => exact mk tb_Addresses tw_125 rfl
    | 6 => exact mk tb_Identities tw_160 rfl
    | 7 => exact mk tb_DateReader tw_172 rfl
    | 8 => exact mk tb_ContentType tw_185 rfl
    | 9 => exact mk tb_Model tw_915 rfl
    | k + 10 => exact ⟨(0, fun _ => 0), fun q hq => by simp at hq⟩
  exact ⟨(fun k => (hall k).choose.1, fun k => (hall k).choose.2), fun k q hq => (hall k).choose_spec q hq⟩
theorem lw_ar {s : State} {args : Array Value} {ty : FieldType} (h : (Cond.arrayClass ty).before args s = true) (hty : ∀ C, ty ≠ .object C) : ∃ c : ClassId, ArrOfT s c ty ∧ va_RA s c ty := by
  obtain ⟨c, k, comp, h1, h2, h3⟩ := Cond.arrayClass_spec (args := args) (first := s) (o := none) (s := s) (idx := []) h
  refine ⟨c, fun n z => ⟨(fun k h => by cases h), k, h2, comp, h3⟩, ?_⟩
  cases ty with
  | object C => exact absurd rfl (hty C)
  | _ => exact h1
theorem tx_in : ∀ w ∈ tx_ws.drop 2, w ∈ lw_tbl := List.forall_mem_cons.mpr ⟨List.mem_of_getElem? (i := 618) (by decide +kernel), List.forall_mem_cons.mpr ⟨List.mem_of_getElem? (i := 620) (by decide +kernel), List.forall_mem_cons.mpr ⟨List.mem_of_getElem? (i := 595) (by decide +kernel), List.forall_mem_cons.mpr ⟨List.mem_of_getElem? (i := 597) (by decide +kernel), List.forall_mem_cons.mpr ⟨List.mem_of_getElem? (i := 599) (by decide +kernel), List.forall_mem_cons.mpr ⟨List.mem_of_getElem? (i := 593) (by decide +kernel), fun _ h => absurd h List.not_mem_nil⟩⟩⟩⟩⟩⟩
theorem lw_str {s : State} {args : Array Value} {C tx : String} {k n : Nat} (hts : ∀ w ∈ lw_tbl, w.before args s = true) (hw : Cond.stringRef C k tx ∈ lw_tbl) (hc : Cond.instantiable C n ∈ lw_tbl) : ∃ a : Nat, vk_R C k tx a s := by
  obtain ⟨cC, kC, hfc, -⟩ := Cond.instantiable_spec (hts _ hc)
  have h1 : (Cond.stringRef C k tx).before #[] s = true := hts _ hw
  obtain ⟨-, -, -, a, -, -, -, -, -, h2⟩ := Cond.stringRef_spec (args := #[]) (first := s) (o := none) (s := s) (idx := []) hfc h1
  exact ⟨a, h1, h2⟩
end START
