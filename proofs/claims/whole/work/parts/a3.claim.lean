def R_law : String := "MailHeadsLaw"
def lw_P (b : Addr) (xs : List Int32) (args : Array Value) (s : State) : Prop := args = #[.ref b] ∧ s.IntsAt b xs ∧ xs = scrF ∧ (Jvm.Cond.and given_1 narrow_1).before args s = true
def lw_Q (_ : Array Value) (s : State) (o : Outcome) (t : State) : Prop := o = .returned (some (.int 0)) ∧ Framed s o t [] 601024 7293034
def lw_Z (below : List Frame) (a : Array Value) (s : State) : State → Prop := fun t => ∃ o, t.status = .running ∧ Ended t below o ∧ lw_Q a s o t
/-- what holds at the law's entry: the machine, the code, the tables' words (any of lw_tbl by 'hts w (by decide +kernel)'), the script of L ints xs at the cell b, what the Statement gives of the start (any of its parts by flat_of_before) -/
def lw_At (p : Program) (s : State) (m : MethodId) (meth : Method) (c : Code) (b L : Nat) (xs : Nat → Int32) : Prop :=
  p.tables.exec = Jvm.exec ∧ c.code = code ∧ meth.sig.returnType = ret ∧ c.maxLocals = 8 ∧ s.vm.findClass R_law = some m.cls ∧ (∀ w ∈ lw_tbl, w.before #[Value.ref b] s = true) ∧ va_X b L xs s s.heap ∧ b < s.heap.size ∧ meth.locks = false ∧ (Jvm.Cond.and given_1 narrow_1).before #[Value.ref b] s = true
set_option maxHeartbeats 4000000 in
theorem whole_start {p : Program} {e : Env} {s : State} {m : MethodId} {below : List Frame} {meth : Method} {c : Code} (l : Launch) (hf : l.flags = flags0) {b : Nat} {xs : Nat → Int32} (hxs : ∀ j, j < 54 → xs j = scrF.getD j 0) (C0 : lw_At p s m meth c b 54 xs) (hnm : s.methodNamed? x = some m) (hname : meth.name = x.name) (hself : (Cond.code x code maxLocals ret).before #[Value.ref b] s = true) : W p l e room_1 s m #[Value.ref b] below meth c s.heap [] 0 0 (lw_Z below #[Value.ref b] s) (entryFrame m ([Value.ref b] : List Value).toArray 8) := by
  obtain ⟨hx, hb, hr, hml, hown, hts, hX, hbl, hlocks, hgv⟩ := C0
  have hta : ∀ w ∈ tb_all, w.before #[Value.ref b] s = true := fun w hw => hts w (List.mem_filter.mp hw).1
  have hw0 : ∀ w ∈ mt_w m_Law_law, w.before #[Value.ref b] s = true := fun w hw => by
    rcases List.mem_cons.mp hw with e | hw
    · rw [e]
      exact hself
    · exact hta w hw
  obtain ⟨D, hKc⟩ := lw_kn hta
  obtain ⟨cI, i1, i2⟩ := lw_ar (hta _ tw_44) (fun _ z => by cases z)
  obtain ⟨cZ, z1, z2⟩ := lw_ar (hta _ tw_1056) (fun _ z => by cases z)
  obtain ⟨cJ, j1, j2⟩ := lw_ar (hta _ tw_1371) (fun _ z => by cases z)
  obtain ⟨sg, hsg⟩ := lw_str (C := "MailHeads$Words") (k := 32) (tx := "<>:;@,.)]\\") (n := 5) hts (List.mem_of_getElem? (i := 198) (by decide +kernel)) (List.mem_filter.mp tw_97).1
  obtain ⟨s170, hs170⟩ := lw_str (C := "MailHeads") (k := 170) (tx := "no such field") (n := 9) hts (List.mem_of_getElem? (i := 630) (by decide +kernel)) (List.mem_filter.mp tw_24).1
  have hini : (Cond.initialized Bundle.tN).before #[Value.ref b] s = true := hts _ (List.mem_of_getElem? (i := 106) (by decide +kernel))
  have hfl := flat_of_before _ hgv
  have hA : ∀ a : Nat, a < s.heap.size → ¬ (fun q : Nat => s.heap.size ≤ q) a := fun a ha => Nat.not_le.mpr ha
  have q1 : va_Zq Bundle.tN "UNASSIGNED_STACK" Bundle.steD (fun q => s.heap.size ≤ q) s s.heap := va_Zqof (hts _ (tx_in _ (List.mem_of_getElem? (i := 0) rfl))) hini (hfl _ (by decide +kernel)) hA
  have q2 : va_Zq Bundle.tN "SUPPRESSED_SENTINEL" Bundle.listD (fun q => s.heap.size ≤ q) s s.heap := va_Zqof (hts _ (tx_in _ (List.mem_of_getElem? (i := 1) rfl))) hini (hfl _ (by decide +kernel)) hA
  have hL0 : lw_L b 54 xs sg s170 s.heap.size s := ⟨⟨hX, hbl⟩, ⟨hsg, hs170⟩, ⟨q1, q2⟩, ⟨lS.of rfl (hts _ (tx_in _ (List.mem_of_getElem? (i := 0) rfl))), lS.of rfl (hts _ (tx_in _ (List.mem_of_getElem? (i := 1) rfl)))⟩, fun w hw => va_tabs (tx_w2 w hw).1 (u := s) rfl (hts w (tx_in w (List.mem_cons_of_mem _ (List.mem_cons_of_mem _ hw))))⟩
  obtain ⟨ua, ub, hu⟩ := sS_of (own := "MailHeads") (k := 120) (tx := "<>:;@,.)]\\") (n0 := 9) (cs := sgA) hts (List.mem_of_getElem? (i := 656) (by decide +kernel)) (List.mem_filter.mp tw_24).1 (by decide) (hfl _ (by decide +kernel)) (hfl _ (by decide +kernel)) (hfl _ (by decide +kernel)) (hfl _ (by decide +kernel)) (fun j hj => hfl _ ((show ∀ j, j < sgA.length → Cond.eq (.elem (.field (.string "MailHeads" 120) "java/lang/String" "value" "[B") (.int (Int32.ofNat j))) (.int (sgA.getD j 0)) ∈ flatC (Jvm.Cond.and given_1 narrow_1) from by decide +kernel) j hj))
  obtain ⟨va, vb, hv⟩ := sS_of (own := "MailHeads") (k := 140) (tx := "<>:;@,)]\\=/") (n0 := 9) (cs := sgB) hts (List.mem_of_getElem? (i := 987) (by decide +kernel)) (List.mem_filter.mp tw_24).1 (by decide) (hfl _ (by decide +kernel)) (hfl _ (by decide +kernel)) (hfl _ (by decide +kernel)) (hfl _ (by decide +kernel)) (fun j hj => hfl _ ((show ∀ j, j < sgB.length → Cond.eq (.elem (.field (.string "MailHeads" 140) "java/lang/String" "value" "[B") (.int (Int32.ofNat j))) (.int (sgB.getD j 0)) ∈ flatC (Jvm.Cond.and given_1 narrow_1) from by decide +kernel) j hj))
  obtain ⟨wa, wb, hw⟩ := sS_of (own := "MailHeads$DateReader") (k := 81) (tx := "janfebmaraprmayjunjulaugsepoctnovdec") (n0 := 2) (cs := moL) hts (List.mem_of_getElem? (i := 910) (by decide +kernel)) (List.mem_filter.mp tw_172).1 (by decide) (hfl _ (by decide +kernel)) (hfl _ (by decide +kernel)) (hfl _ (by decide +kernel)) (hfl _ (by decide +kernel)) (fun j hj => hfl _ ((show ∀ j, j < moL.length → Cond.eq (.elem (.field (.string "MailHeads$DateReader" 81) "java/lang/String" "value" "[B") (.int (Int32.ofNat j))) (.int (moL.getD j 0)) ∈ flatC (Jvm.Cond.and given_1 narrow_1) from by decide +kernel) j hj))
  obtain ⟨ya, yb, hy⟩ := sS_of (own := "MailHeads$DateReader") (k := 108) (tx := "estedtcstcdtmstmdtpstpdt") (n0 := 2) (cs := znL) hts (List.mem_of_getElem? (i := 973) (by decide +kernel)) (List.mem_filter.mp tw_172).1 (by decide) (hfl _ (by decide +kernel)) (hfl _ (by decide +kernel)) (hfl _ (by decide +kernel)) (hfl _ (by decide +kernel)) (fun j hj => hfl _ ((show ∀ j, j < znL.length → Cond.eq (.elem (.field (.string "MailHeads$DateReader" 108) "java/lang/String" "value" "[B") (.int (Int32.ofNat j))) (.int (znL.getD j 0)) ∈ flatC (Jvm.Cond.and given_1 narrow_1) from by decide +kernel) j hj))
  obtain ⟨tm, htm⟩ := sT_of (nm := "MONTH_DAYS") (l := mdL) (hts _ (List.mem_of_getElem? (i := 959) (by decide +kernel))) (hts _ (List.mem_of_getElem? (i := 103) (by decide +kernel))) (by decide) (hfl _ (by decide +kernel)) (hfl _ (by decide +kernel)) (fun j hj => hfl _ ((show ∀ j, j < mdL.length → Cond.eq (.elem (.static "MailHeads$DateReader" "MONTH_DAYS" "[I") (.int (Int32.ofNat j))) (.int (mdL.getD j 0)) ∈ flatC (Jvm.Cond.and given_1 narrow_1) from by decide +kernel) j hj))
  obtain ⟨tz, htz⟩ := sT_of (nm := "ZONE_HOURS") (l := zhL) (hts _ (List.mem_of_getElem? (i := 975) (by decide +kernel))) (hts _ (List.mem_of_getElem? (i := 103) (by decide +kernel))) (by decide) (hfl _ (by decide +kernel)) (hfl _ (by decide +kernel)) (fun j hj => hfl _ ((show ∀ j, j < zhL.length → Cond.eq (.elem (.static "MailHeads$DateReader" "ZONE_HOURS" "[I") (.int (Int32.ofNat j))) (.int (zhL.getD j 0)) ∈ flatC (Jvm.Cond.and given_1 narrow_1) from by decide +kernel) j hj))
  have hcs : va_Z "java/lang/String" "COMPACT_STRINGS" "Z" (.int 1) (bA s.heap.size) s s.heap := va_Zof (hts _ (List.mem_of_getElem? (i := 712) (by decide +kernel))) (hts _ (List.mem_of_getElem? (i := 110) (by decide +kernel))) (va_eqt (hfl _ (by decide +kernel))) hA
  obtain ⟨fm, hfm, hfz⟩ : ∃ fm : Value, (fm = .null ∨ ∃ t : Nat, fm = .ref t) ∧ va_Z fmC "SIOOBE_FORMATTER" fmD fm (bA s.heap.size) s s.heap := by
    rcases va_Zqof (C := fmC) (n := "SIOOBE_FORMATTER") (d := fmD) (A := bA s.heap.size) (hts _ (List.mem_of_getElem? (i := 753) (by decide +kernel))) (hts _ (List.mem_of_getElem? (i := 113) (by decide +kernel))) (hfl _ (by decide +kernel)) hA with q | ⟨t, q⟩
    · exact ⟨_, Or.inl rfl, q⟩
    · exact ⟨_, Or.inr ⟨t, rfl⟩, q⟩
  have hnst : ∀ w ∈ nst, va_Nw w s := List.forall_mem_cons.mpr ⟨va_Nw.of rfl (hts _ (List.mem_of_getElem? (i := 379) (by decide +kernel))), List.forall_mem_cons.mpr ⟨va_Nw.of rfl (hts _ (List.mem_of_getElem? (i := 448) (by decide +kernel))), List.forall_mem_cons.mpr ⟨va_Nw.of rfl (hts _ (List.mem_of_getElem? (i := 566) (by decide +kernel))), List.forall_mem_cons.mpr ⟨va_Nw.of rfl (hts _ (List.mem_of_getElem? (i := 567) (by decide +kernel))), List.forall_mem_cons.mpr ⟨va_Nw.of rfl (hts _ (List.mem_of_getElem? (i := 877) (by decide +kernel))), List.forall_mem_cons.mpr ⟨va_Nw.of rfl (hts _ (List.mem_of_getElem? (i := 905) (by decide +kernel))), List.forall_mem_cons.mpr ⟨va_Nw.of rfl (hts _ (List.mem_of_getElem? (i := 940) (by decide +kernel))), fun _ h => absurd h List.not_mem_nil⟩⟩⟩⟩⟩⟩⟩
  have hE0 : lw_E (fun i => [ua, ub, va, vb, wa, wb, ya, yb, tm, tz].getD i 0) fm s.heap.size s := ⟨hnst, ⟨hcs, hfz⟩, ⟨hu, hv⟩, ⟨hw, hy⟩, htm, htz⟩
  have K : va_K D vwCl [(cI, .int), (cZ, .boolean), (cJ, .long)] s := by
    refine ⟨hKc, fun k q hq => ?_⟩
    match k, hq with
    | 0, hq => cases hq; exact ⟨i1, i2⟩
    | 1, hq => cases hq; exact ⟨z1, z2⟩
    | 2, hq => cases hq; exact ⟨j1, j2⟩
    | k + 3, hq => simp at hq
  obtain ⟨o, h', ⟨rfl, k1, k2⟩, le1, le2, Dk⟩ := x_law (G := lw_G3 l b 54 xs sg s170 s.heap.size (fun i => [ua, ub, va, vb, wa, wb, ya, yb, tm, tz].getD i 0) fm D cI cZ cJ) (cI := cI) (cZ := cZ) (cJ := cJ) (str := sg) (s170 := s170) (sa := ua) (sb := va) l3_nm rfl rfl rfl l3_sg (l3_ex hf) l3_Sg l3_S2 (l3_sc hbl) hxs (s.heap.size, 0, fun _ => none)
  have k1' : h'.1 ≤ s.heap.size + 200000 := k1
  have k2' : h'.2.1 ≤ 0 + 400000 := k2
  have hl := lv_entry ([.ref b]) (n := 8) (Nat.le_of_ble_eq_true rfl)
  rw [lg_entry_eq]
  have Wd := Dk p e room_1 s m #[Value.ref b] below meth c ⟨hx, hb, hml, hr, hown, hw0, hlocks, hname, K, ⟨hL0, hE0⟩, Nat.le_refl _, rfl, rfl, l3_ok hbl, hnm, fun q ce h1 h2 => absurd (Array.getElem?_eq_some_iff.mp h2).1 (Nat.not_lt.mpr h1)⟩ s.heap [] 0 0 _ ⟨⟨rfl, fun q ce h1 h2 => absurd (Array.getElem?_eq_some_iff.mp h2).1 (Nat.not_lt.mpr h1)⟩, fun a e he => by cases he⟩ va_S.rf hl (by
    show 0 + (h'.1 - s.heap.size) ≤ 601024
    omega) (by
    show 0 + (h'.2.1 - 0) ≤ 7293034
    omega)
  intro T hT X0
  obtain ⟨t, a1, o', b1, b2, ⟨rfl, -, -⟩, Ls, ⟨-, f2, f3⟩, hLs⟩ := Wd T hT X0
  exact ⟨t, a1, _, b1, b2, rfl, ⟨_, rfl⟩, f2, f3.weaken (fun q hq hlt => absurd (hLs q hq) (Nat.not_le.mpr hlt)) (Nat.le_refl _) (Nat.le_refl _)⟩
set_option maxHeartbeats 4000000 in
theorem lw_walk (l : Launch) (hf : l.flags = flags0) (b : Addr) (xs : List Int32) : MetFree l x (headSpec (Jvm.Cond.code x code maxLocals ret :: tables_1) room_1) (lw_P b xs) (fun _ _ _ _ _ => True) lw_Q := by
  refine MetFree.of_bodyS (code := code) (maxLocals := maxLocals) (ret := ret) (by decide) ?_ ?_
  · intro args s m h hn
    obtain ⟨meth, c, h1, h2, h3, h4, h5, h6, -, -⟩ := Cond.code_spec hn (atoms_spec (ws := Jvm.Cond.code x code maxLocals ret :: tables_1) h _ List.mem_cons_self)
    exact ⟨meth, c, h1, h2, h3, h4, h5, h6⟩
  · intro p e s m args below meth c s₁ B hml0 hP _
    obtain ⟨rfl, hx, hxe, hgv⟩ := hP
    obtain ⟨scr, harrAt, hlist, hof, hsmall⟩ := hx
    obtain ⟨hcb, hkn, -, -⟩ := State.arrayAt?_spec harrAt
    have hown : s.vm.findClass R_law = some m.cls := findClass_of_methodNamed B.named
    have hts0 : ∀ c ∈ (Jvm.Cond.code x code maxLocals ret :: tables_1), c.before #[Value.ref b] s = true := atoms_spec (ws := Jvm.Cond.code x code maxLocals ret :: tables_1) B.pre
    have hts : ∀ w ∈ lw_tbl, w.before #[Value.ref b] s = true := k2_hts_sels lw_privs (fun w hw => hts0 w (List.mem_cons_of_mem _ hw)) lw_privs_ok
    have hml : c.maxLocals = 8 := B.maxLocals_eq (hts0 _ List.mem_cons_self)
    have X₀ : Stand p l e room_1 s m #[Value.ref b] below meth c s₁ [] 0 0 := Stand.of_body B
    have hh0 : s₁.heap = s.heap := by rw [B.state]; rfl
    have hsz : scr.slots.size = xs.length := by rw [← Array.length_toList, hlist, List.length_map]
    have hval : ∀ j : Nat, j < xs.length → scr.slots[j]? = some (.int (xs.getD j 0)) := fun j hj => by
      rw [← Array.getElem?_toList, hlist]
      simp [hj]
    have hbl : b < s.heap.size := (Array.getElem?_eq_some_iff.mp hcb).1
    have hX : va_X b xs.length (fun j => xs.getD j 0) s s.heap := ⟨scr, hcb, hof, hkn, hsz, hval⟩
    have K : W p l e room_1 s m #[Value.ref b] below meth c s₁.heap [] 0 0 (lw_Z below #[Value.ref b] s) (entryFrame m ([Value.ref b] : List Value).toArray 8) := by
      rw [hh0]
      subst hxe
      exact whole_start l hf (xs := fun j => scrF.getD j 0) (fun _ _ => rfl) ⟨B.exec, B.bytes, B.returns, hml, hown, hts, hX, hbl, B.notSynchronized, hgv⟩ B.named (name_of_methodNamed B.named B.method).1 (hts0 _ List.mem_cons_self)
    obtain ⟨t, a1, o, b1, b2, b3⟩ := K s₁ rfl X₀
    exact ⟨t, o, a1, b1, b2, b3⟩
/-- from a start that the Statement allows, with the script scrF: the law's second limb falls -/
theorem refuted_at (l : Launch) (hfl : l.flags = flags0) (p : Program) (e : Env) (s : State) (m : MethodId) (args : Array Value) (below : List Frame) (hA : AtStart classFile x code maxLocals ret World_1 tables_1 room_1 Calls_1 rest_1 Pre_1 l p e s m args below) (b : Addr) (hb : args = #[.ref b]) (hx : s.IntsAt b scrF) : RefutedClaimed_1_2 := by
  obtain ⟨-, -, ha, -, hc, hk, hf, hfit, hheap, happ, -, -, hpre⟩ := id hA
  obtain ⟨k, o, q1, q2, q3, rfl, -⟩ := lw_walk l hfl b scrF p e ha hc hk s m args below hf ((Spec.applies_iff_loose hf).mp happ).1 ⟨hb, hx, rfl, hpre⟩ trivial
  refine ⟨l, p, e, s, m, args, below, hfl, hA, k, _, q1, q2, q3, fun hp => ?_⟩
  have hz := Cond.after_iff.mp hp.1
  rw [show limb_1_2 = Cond.eq .result (.int 1) from rfl, Cond.eq_ints (x := 0) (y := 1) rfl rfl] at hz
  simp at hz
