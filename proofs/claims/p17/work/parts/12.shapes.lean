/-! calls by the shape of what comes back; locals restated -/
def lq_all (lv : List (Nat × Value)) : List (Nat × Value) → Prop
  | [] => True
  | q :: l => lq_at lv q.1 = some q.2 ∧ lq_all lv l
theorem lq_all_mem {lv : List (Nat × Value)} : ∀ {l : List (Nat × Value)}, lq_all lv l → ∀ q ∈ l, lq_at lv q.1 = some q.2
  | [], _, _, h => by cases h
  | _ :: _, h, _, hq => by
    rcases List.mem_cons.mp hq with e | e
    · rw [e]; exact h.1
    · exact lq_all_mem h.2 _ e
/-- at a loop's head: the locals by name, in this order -/
theorem ev_as {G : gl_G} {μ : mt_M} {pc : Nat} {lv : List (Nat × Value)} {st : List Value} {h : hp_T} {Z : Option Value → hp_T → Prop} (lv2 : List (Nat × Value)) (hs : lq_all lv lv2) (k : ev_E G μ pc lv2 st h Z) : ev_E G μ pc lv st h Z := ev_lv (lq_all_mem hs) k
/-- answers v, leaves the cells -/
abbrev cv (v : Value) (h : hp_T) : Option Value → hp_T → Prop := fun o h' => o = some v ∧ h' = h
/-- answers nothing, leaves cells with P -/
abbrev cn (P : hp_T → Prop) : Option Value → hp_T → Prop := fun o h' => o = none ∧ P h'
/-- answers a value, leaves cells, with P -/
abbrev cr (P : Value → hp_T → Prop) : Option Value → hp_T → Prop := fun o h' => ∃ v, o = some v ∧ P v h'
section SHAPES
variable {G : gl_G} {μ ν : mt_M} {pc : Nat} {lv : List (Nat × Value)} {h : hp_T} {Z : Option Value → hp_T → Prop} {index n : Nat}
theorem ev_Vv {b ci : Nat} {fs : List Value} {T : u_T} {N : Nat} {v : Value} (As rest : List Value) (F : ca_V μ ν index n) (hd : decode (mt_b μ) pc = .ok (.invokevirtual index, 3)) (hc : vwCl[ci]? = some ((mt_y ν).cls, T, N)) (he : h.2.2 b = some (.inr (ci, fs))) (hn : As.length = n) (hroom : (rest.map fun v => v.category).sum ≤ 8) (hM : ct_E G ν (.ref b :: As) h (cv v h)) (kk : ev_E G μ (pc + 3) lv (v :: rest) h Z) : ev_E G μ pc lv (As.reverse ++ .ref b :: rest) h Z :=
  ev_callV F hd hc he hn hroom hM (fun o h1 z => by obtain ⟨rfl, rfl⟩ := z; exact kk)
theorem ev_Vn {b ci : Nat} {fs : List Value} {T : u_T} {N : Nat} {P : hp_T → Prop} (As rest : List Value) (F : ca_V μ ν index n) (hd : decode (mt_b μ) pc = .ok (.invokevirtual index, 3)) (hc : vwCl[ci]? = some ((mt_y ν).cls, T, N)) (he : h.2.2 b = some (.inr (ci, fs))) (hn : As.length = n) (hroom : (rest.map fun v => v.category).sum ≤ 8) (hM : ct_E G ν (.ref b :: As) h (cn P)) (kk : ∀ h1, P h1 → ev_E G μ (pc + 3) lv rest h1 Z) : ev_E G μ pc lv (As.reverse ++ .ref b :: rest) h Z :=
  ev_callV F hd hc he hn hroom hM (fun o h1 z => by obtain ⟨rfl, z⟩ := z; exact kk h1 z)
theorem ev_Vr {b ci : Nat} {fs : List Value} {T : u_T} {N : Nat} {P : Value → hp_T → Prop} (As rest : List Value) (F : ca_V μ ν index n) (hd : decode (mt_b μ) pc = .ok (.invokevirtual index, 3)) (hc : vwCl[ci]? = some ((mt_y ν).cls, T, N)) (he : h.2.2 b = some (.inr (ci, fs))) (hn : As.length = n) (hroom : (rest.map fun v => v.category).sum ≤ 8) (hM : ct_E G ν (.ref b :: As) h (cr P)) (kk : ∀ v h1, P v h1 → ev_E G μ (pc + 3) lv (v :: rest) h1 Z) : ev_E G μ pc lv (As.reverse ++ .ref b :: rest) h Z :=
  ev_callV F hd hc he hn hroom hM (fun o h1 z => by obtain ⟨v, rfl, z⟩ := z; exact kk v h1 z)
theorem ev_Sv {v : Value} (As rest : List Value) (F : ca_S μ ν index n) (hd : decode (mt_b μ) pc = .ok (.invokestatic index, 3)) (hn : As.length = n) (hroom : (rest.map fun v => v.category).sum ≤ 8) (hM : ct_E G ν As h (cv v h)) (kk : ev_E G μ (pc + 3) lv (v :: rest) h Z) : ev_E G μ pc lv (As.reverse ++ rest) h Z :=
  ev_callS F hd hn hroom hM (fun o h1 z => by obtain ⟨rfl, rfl⟩ := z; exact kk)
theorem ev_Sn {P : hp_T → Prop} (As rest : List Value) (F : ca_S μ ν index n) (hd : decode (mt_b μ) pc = .ok (.invokestatic index, 3)) (hn : As.length = n) (hroom : (rest.map fun v => v.category).sum ≤ 8) (hM : ct_E G ν As h (cn P)) (kk : ∀ h1, P h1 → ev_E G μ (pc + 3) lv rest h1 Z) : ev_E G μ pc lv (As.reverse ++ rest) h Z :=
  ev_callS F hd hn hroom hM (fun o h1 z => by obtain ⟨rfl, z⟩ := z; exact kk h1 z)
theorem ev_Sr {P : Value → hp_T → Prop} (As rest : List Value) (F : ca_S μ ν index n) (hd : decode (mt_b μ) pc = .ok (.invokestatic index, 3)) (hn : As.length = n) (hroom : (rest.map fun v => v.category).sum ≤ 8) (hM : ct_E G ν As h (cr P)) (kk : ∀ v h1, P v h1 → ev_E G μ (pc + 3) lv (v :: rest) h1 Z) : ev_E G μ pc lv (As.reverse ++ rest) h Z :=
  ev_callS F hd hn hroom hM (fun o h1 z => by obtain ⟨v, rfl, z⟩ := z; exact kk v h1 z)
theorem ev_In {b : Nat} {P : hp_T → Prop} (As rest : List Value) (F : ca_I μ ν index n) (hd : decode (mt_b μ) pc = .ok (.invokespecial index, 3)) (hn : As.length = n) (hroom : (rest.map fun v => v.category).sum ≤ 8) (hM : ct_E G ν (.ref b :: As) h (cn P)) (kk : ∀ h1, P h1 → ev_E G μ (pc + 3) lv rest h1 Z) : ev_E G μ pc lv (As.reverse ++ .ref b :: rest) h Z :=
  ev_callI F hd hn hroom hM (fun o h1 z => by obtain ⟨rfl, z⟩ := z; exact kk h1 z)
end SHAPES
