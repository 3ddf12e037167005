section CALL
/-- behind a call that comes back with o and h' -/
theorem wr_call {p : Program} {l : Launch} {e : Env} {R : Room} {s : State} {m : MethodId} {args : Array Value} {below : List Frame} {meth : Method} {c : Code} {H : Heap} {locs : List Loc} {cells slots mc ms : Nat} {Q : State → Prop} {G : gl_G} {pc : Nat} {ls : Array Slot} {st0 rest : List Value} {o : Option Value} {h' : hp_T} {a : Array Value}
    (hr : va_Run p l e R s m args below meth c H locs cells slots mc ms (F0 m pc ls st0) rest (ct_Q G o h' a) (gl_A G)) (hS : va_S (gl_A G) s.heap H locs)
    (kk : ∀ (H1 : Heap) (locs1 : List Loc), hp_ok G h' H1 → va_S (gl_A G) s.heap H1 locs1 → W p l e R s m args below meth c H1 locs1 (cells + mc) (slots + ms) Q (F0 m (pc + 3) ls (o.toList ++ rest))) : W p l e R s m args below meth c H locs cells slots Q (F0 m pc ls st0) := by
  intro T hT X
  obtain ⟨v, st₀, t, T', L, h0, X', hL, e1, e2, ⟨hv, hO, hz, hk⟩, st⟩ := hr T hT X
  cases hv
  rw [h0] at hz hk
  obtain ⟨t2, a1, b1⟩ := kk T'.heap (locs ++ L) (by rw [e1]; exact hO) ⟨Nat.le_trans hS.1 (by rw [e1]; exact hz), fun q h1 h2 => by rw [e1, hk q (Nat.lt_of_lt_of_le h1 hS.1) h2]; exact hS.2.1 q h1 h2, fun q hq => by
    rcases List.mem_append.mp hq with z | z
    · exact hS.2.2 q z
    · exact hL q z⟩ T' rfl X'
  exact ⟨t2, st t2 a1, b1⟩
theorem ct_blind {G : gl_G} (hG : gl_ok G) (av : List Value) (h : hp_T) : FrameBlind (ct_P G av h) := fun a U g mk q => by
  obtain ⟨q0, qO, qb, qK, qL⟩ := q
  exact ⟨q0, qO, qb, va_K.moved (u := U) (U := U.calling g mk a) (Vm.Alike.refl U.vm) qK, hG U (U.calling g mk a) (State.WarmedH.refl U) (fun _ _ _ => rfl) qL⟩
theorem ct_here {G : gl_G} {μ : mt_M} {p : Program} {R : Room} {s : State} {m : MethodId} {args : Array Value} {meth : Method} {c : Code} (X : cx_ok G μ p R s m args meth c) {H : Heap} {locs : List Loc} {h : hp_T} (hO : hp_ok G h H) (hS : va_S (gl_A G) s.heap H locs) (av : List Value) : ∀ U : State, U.heap = H → s.WarmedH U.vm → ct_P G av h av.toArray U := by
  intro U hU hW
  obtain ⟨hx, hb, hml, hr, hown, hts, hlocks, hname, hK, hL, hbs, -, -, hG, hnmd, hns⟩ := X
  exact ⟨rfl, by rw [hU]; exact hO, by rw [hU]; exact Nat.le_trans hbs hS.1, va_K.moved hW.alike hK, hG s U hW (fun q h1 h2 => by rw [hU]; exact hS.2.1 q h1 h2) hL⟩
/-- what a caller's words and room must say of its callee -/
def ca_ok (μ ν : mt_M) (n : Nat) : Prop := (∃ ws', mt_w ν = Cond.code (mt_y ν) (mt_b ν) (mt_n ν) (mt_r ν) :: ws') ∧ ((mt_y ν).cls ≠ "java/lang/invoke/MethodHandle" ∧ (mt_y ν).cls ≠ "java/lang/invoke/VarHandle" ∧ (parseMethodDescriptor (mt_y ν).desc).map (fun d => d.parameters.length) = some n) ∧ (mt_f ν + 1 ≤ mt_f μ ∧ 8 + (mt_n ν + 11) + mt_l ν ≤ mt_l μ)
def ca_V (μ ν : mt_M) (index n : Nat) : Prop := GoodIn (mt_w μ) (wsV (mt_y μ).cls index (mt_y ν).cls (mt_y ν) (mt_w ν)) ∧ ca_ok μ ν n
def ca_S (μ ν : mt_M) (index n : Nat) : Prop := GoodIn (mt_w μ) (va_wsS (mt_y μ).cls index (mt_y ν) (mt_w ν)) ∧ ca_ok μ ν n
def ca_I (μ ν : mt_M) (index n : Nat) : Prop := GoodIn (mt_w μ) (mt_w ν) ∧ ca_ok μ ν n ∧ mt_r ν = none ∧ (mt_y ν).name = "<init>" ∧ Cond.initialized (mt_y ν).cls ∈ mt_w μ ∧ Cond.methodLink (mt_y μ).cls index (mt_y ν) ∈ mt_w μ ∧ Cond.instanceMethod (mt_y ν) ∈ mt_w μ
variable {G : gl_G} {μ ν : mt_M} {pc : Nat} {lv : List (Nat × Value)} {rest As : List Value} {h : hp_T} {Z Z1 : Option Value → hp_T → Prop} {index n : Nat}
theorem ev_callV {b ci : Nat} {fs : List Value} {T : u_T} {N : Nat} (F : ca_V μ ν index n) (hd : decode (mt_b μ) pc = .ok (.invokevirtual index, 3)) (hc : vwCl[ci]? = some ((mt_y ν).cls, T, N)) (he : h.2.2 b = some (.inr (ci, fs))) (hn : As.length = n) (hroom : (rest.map fun v => v.category).sum ≤ 8) (hM : ct_E G ν (.ref b :: As) h Z1) (kk : ∀ o h1, Z1 o h1 → ev_E G μ (pc + 3) lv (o.toList ++ rest) h1 Z) : ev_E G μ pc lv (As.reverse ++ .ref b :: rest) h Z := by
  obtain ⟨o1, h1, z1, le1, le2, M⟩ := hM
  obtain ⟨hgood, ⟨ws', hw⟩, hdd, hR⟩ := F
  refine ev_step (h2 := h1) le1 le2 (fun p e R s m args below meth c X H locs cells slots Q ls hO hS hl hc1 hs1 k => ?_) (kk o1 h1 z1)
  have X' := X
  obtain ⟨hx, hb, hml, hr, hown, hts, hlocks, hname, hK, hL, hbs, hRf, hRl, hG, hnmd, hns⟩ := X
  rw [← hRf, ← hRl] at hR
  refine wr_call (va_runV (As := As) (rest := rest) (Ts := mt_w μ) ⟨hx, hb, hml, hown, hts⟩ (M hG) (cwV n hts hgood hw rfl rfl ⟨rfl, hdd⟩ hR) ⟨ct_blind hG _ _, va_recv hK (hO.one he) hc (q0 := 0) rfl, ct_here X' hO hS (.ref b :: As)⟩ rfl hn hl.1 rfl (lv_room hroom) hd ⟨hc1, hs1⟩) hS (fun H1 locs1 hO1 hS1 => ?_)
  exact k H1 locs1 ls hO1 hS1 hl
theorem ev_callS (F : ca_S μ ν index n) (hd : decode (mt_b μ) pc = .ok (.invokestatic index, 3)) (hn : As.length = n) (hroom : (rest.map fun v => v.category).sum ≤ 8) (hM : ct_E G ν As h Z1) (kk : ∀ o h1, Z1 o h1 → ev_E G μ (pc + 3) lv (o.toList ++ rest) h1 Z) : ev_E G μ pc lv (As.reverse ++ rest) h Z := by
  obtain ⟨o1, h1, z1, le1, le2, M⟩ := hM
  obtain ⟨hgood, ⟨ws', hw⟩, hdd, hR⟩ := F
  refine ev_step (h2 := h1) le1 le2 (fun p e R s m args below meth c X H locs cells slots Q ls hO hS hl hc1 hs1 k => ?_) (kk o1 h1 z1)
  have X' := X
  obtain ⟨hx, hb, hml, hr, hown, hts, hlocks, hname, hK, hL, hbs, hRf, hRl, hG, hnmd, hns⟩ := X
  rw [← hRf, ← hRl] at hR
  refine wr_call (va_runS (As := As) (rest := rest) (Ts := mt_w μ) ⟨hx, hb, hml, hown, hts⟩ (M hG) (va_cwS n hts hgood hw rfl rfl hdd hR) ⟨ct_blind hG _ _, ct_here X' hO hS As⟩ rfl hn hl.1 rfl (lv_room hroom) hd ⟨hc1, hs1⟩) hS (fun H1 locs1 hO1 hS1 => ?_)
  exact k H1 locs1 ls hO1 hS1 hl
/-- a private static of a nest mate -/
theorem ev_callSN {host : String} (hN : ∀ U : State, gl_L G U → va_Nw (.methodLinkNest (mt_y μ).cls index (mt_y ν) host) U) (hgood : GoodIn (mt_w μ) (mt_w ν)) (F : ca_ok μ ν n) (hini : Cond.initialized (mt_y ν).cls ∈ mt_w μ) (hstt : Cond.static (mt_y ν) ∈ mt_w μ) (hd : decode (mt_b μ) pc = .ok (.invokestatic index, 3)) (hn : As.length = n) (hroom : (rest.map fun v => v.category).sum ≤ 8) (hM : ct_E G ν As h Z1) (kk : ∀ o h1, Z1 o h1 → ev_E G μ (pc + 3) lv (o.toList ++ rest) h1 Z) : ev_E G μ pc lv (As.reverse ++ rest) h Z := by
  obtain ⟨o1, h1, z1, le1, le2, M⟩ := hM
  obtain ⟨⟨ws', hw⟩, hdd, hR⟩ := F
  refine ev_step (h2 := h1) le1 le2 (fun p e R s m args below meth c X H locs cells slots Q ls hO hS hl hc1 hs1 k => ?_) (kk o1 h1 z1)
  have X' := X
  obtain ⟨hx, hb, hml, hr, hown, hts, hlocks, hname, hK, hL, hbs, hRf, hRl, hG, hnmd, hns⟩ := X
  rw [← hRf, ← hRl] at hR
  refine wr_call (va_runSN (As := As) (rest := rest) (Ts := mt_w μ) ⟨hx, hb, hml, hown, hts⟩ (M hG) ⟨va_cnB n hts hgood hw rfl rfl (hN s hL) (hts _ hini) hdd hR, hts _ hstt, trivial⟩ ⟨ct_blind hG _ _, ct_here X' hO hS As⟩ rfl hn hl.1 rfl (lv_room hroom) hd ⟨hc1, hs1⟩) hS (fun H1 locs1 hO1 hS1 => ?_)
  exact k H1 locs1 ls hO1 hS1 hl
theorem ev_callI {b : Nat} (F : ca_I μ ν index n) (hd : decode (mt_b μ) pc = .ok (.invokespecial index, 3)) (hn : As.length = n) (hroom : (rest.map fun v => v.category).sum ≤ 8) (hM : ct_E G ν (.ref b :: As) h Z1) (kk : ∀ o h1, Z1 o h1 → ev_E G μ (pc + 3) lv (o.toList ++ rest) h1 Z) : ev_E G μ pc lv (As.reverse ++ .ref b :: rest) h Z := by
  obtain ⟨o1, h1, z1, le1, le2, M⟩ := hM
  obtain ⟨hgood, ⟨⟨ws', hw⟩, hdd, hR⟩, hr0, hnm, hini, hlink, hinst⟩ := F
  rw [hr0] at hw
  refine ev_step (h2 := h1) le1 le2 (fun p e R s m args below meth c X H locs cells slots Q ls hO hS hl hc1 hs1 k => ?_) (kk o1 h1 z1)
  have X' := X
  obtain ⟨hx, hb, hml, hr, hown, hts, hlocks, hname, hK, hL, hbs, hRf, hRl, hG, hnmd, hns⟩ := X
  rw [← hRf, ← hRl] at hR
  refine wr_call (va_runI (As := As) (rest := rest) (Ts := mt_w μ) ⟨hx, hb, hml, hown, hts⟩ (M hG) (cwI n hts hgood hw rfl rfl (hts _ hini) (hts _ hlink) (hts _ hinst) hnm hdd hR) ⟨ct_blind hG _ _, ct_here X' hO hS (.ref b :: As)⟩ rfl hn hl.1 rfl (lv_room hroom) hd ⟨hc1, hs1⟩) hS (fun H1 locs1 hO1 hS1 => ?_)
  exact k H1 locs1 ls hO1 hS1 hl
/-- Object's constructor -/
theorem ev_objInit {a : Nat} (hlink : Cond.methodLink (mt_y μ).cls index objectInit ∈ mt_w μ) (hinst : Cond.instanceMethod objectInit ∈ mt_w μ) (hcode : Cond.code objectInit ⟨#[0xb1]⟩ 1 none ∈ mt_w μ) (hf : 1 ≤ mt_f μ) (hlo : (rest.map fun v => v.category).sum + 12 ≤ mt_l μ) (hd : decode (mt_b μ) pc = .ok (.invokespecial index, 3)) (kk : ev_E G μ (pc + 3) lv rest h Z) : ev_E G μ pc lv (.ref a :: rest) h Z := by
  refine ev_pure (fun p e R s m args below meth c X H locs cells slots Q ls hO hS hl k => ?_) kk
  obtain ⟨hx, hb, hml, hr, hown, hts, hlocks, hname, hK, hL, hbs, hRf, hRl, hG, hnmd, hns⟩ := X
  refine W.objInit hx hb hown (hts _ hlink) (hts _ hinst) (hts _ hcode) rfl (by rw [hml]; exact hl.1) rfl hd (by rw [hRf]; exact hf) (by rw [hRl]; show 2 * 0 + _ + 12 ≤ _; omega) ?_
  exact W.eq (g2 := F0 m (pc + 3) ls rest) rfl (k ls hl)
end CALL
