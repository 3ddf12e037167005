section FRESH
variable {G : gl_G} {cI : ClassId} {str s170 : Nat} {h : hp_T} {X : Nat}
/-- a fresh MailHeads at X -/
def fr (cI : ClassId) (str X : Nat) (h : hp_T) : Prop := (∀ k, k ≤ 69 → h.2.2 (X + k) = some (ml_b cI str X k)) ∧ X + 69 < h.1
theorem fr_rw {a : Nat} (h0 : h.2.2 a = some (rw_b cI a 0)) (h1 : h.2.2 (a + 1) = some (rw_b cI a 1)) : rw_at cI h a (a + 1) 16 [] :=
  ⟨h0, fun _ => 0, h1, by decide, by decide, fun j hj => absurd hj (Nat.not_lt_zero _)⟩
theorem fr_tx {a : Nat} (h0 : h.2.2 a = some (tx_b cI a 0)) (h1 : h.2.2 (a + 1) = some (tx_b cI a 1)) (h2 : h.2.2 (a + 2) = some (tx_b cI a 2)) (h3 : h.2.2 (a + 3) = some (tx_b cI a 3)) (h4 : h.2.2 (a + 4) = some (tx_b cI a 4)) : tx_at cI h a (a + 1) (a + 2) 16 [] (a + 3) (a + 4) 16 [0] :=
  ⟨h0, ⟨h1, fun _ => 0, h2, by decide, by decide, fun j hj => absurd hj (Nat.not_lt_zero _)⟩, ⟨h3, fun _ => 0, h4, by decide, by decide, fun j hj => by
    have : j = 0 := by simp at hj; exact hj
    subst this
    rfl⟩⟩
theorem fr_X (F : fr cI str X h) : h.2.2 X = some (ml_o X) := F.1 0 (by decide)
theorem fr_ready (F : fr cI str X h) : h.2.2 (X + 1) = some (.inl (cI, 5, .inl (fun _ => 0))) := F.1 1 (by decide)
theorem fr_tape (F : fr cI str X h) : rw_at cI h (X + 2) (X + 3) 16 [] := fr_rw (F.1 2 (by decide)) (F.1 3 (by decide))
theorem fr_head (F : fr cI str X h) : h.2.2 (X + 4) = some (.inr (2, [.ref (X + 5), .int 0, .int 0])) := F.1 4 (by decide)
theorem fr_htx (F : fr cI str X h) : tx_at cI h (X + 5) (X + 6) (X + 7) 16 [] (X + 8) (X + 9) 16 [0] := fr_tx (F.1 5 (by decide)) (F.1 6 (by decide)) (F.1 7 (by decide)) (F.1 8 (by decide)) (F.1 9 (by decide))
theorem fr_adr (F : fr cI str X h) : h.2.2 (X + 18) = some (.inr (5, [.ref (X + 10), .ref (X + 19), .ref (X + 24), .ref (X + 26), .ref (X + 31), .int 0, .int (-1), .int (-1)])) := F.1 18 (by decide)
theorem fr_atx (F : fr cI str X h) : tx_at cI h (X + 19) (X + 20) (X + 21) 16 [] (X + 22) (X + 23) 16 [0] := fr_tx (F.1 19 (by decide)) (F.1 20 (by decide)) (F.1 21 (by decide)) (F.1 22 (by decide)) (F.1 23 (by decide))
theorem fr_grp (F : fr cI str X h) : rw_at cI h (X + 24) (X + 25) 16 [] := fr_rw (F.1 24 (by decide)) (F.1 25 (by decide))
theorem fr_gtx (F : fr cI str X h) : tx_at cI h (X + 26) (X + 27) (X + 28) 16 [] (X + 29) (X + 30) 16 [0] := fr_tx (F.1 26 (by decide)) (F.1 27 (by decide)) (F.1 28 (by decide)) (F.1 29 (by decide)) (F.1 30 (by decide))
theorem fr_idn (F : fr cI str X h) : h.2.2 (X + 33) = some (.inr (6, [.ref (X + 34)])) := F.1 33 (by decide)
theorem fr_itx (F : fr cI str X h) : tx_at cI h (X + 34) (X + 35) (X + 36) 16 [] (X + 37) (X + 38) 16 [0] := fr_tx (F.1 34 (by decide)) (F.1 35 (by decide)) (F.1 36 (by decide)) (F.1 37 (by decide)) (F.1 38 (by decide))
theorem fr_ctt (F : fr cI str X h) : h.2.2 (X + 40) = some (.inr (8, [.ref (X + 10), .ref (X + 41), .ref (X + 46), .ref (X + 51), .ref (X + 56), .ref (X + 58), .ref (X + 60)])) := F.1 40 (by decide)
theorem fr_ptx (F : fr cI str X h) : tx_at cI h (X + 41) (X + 42) (X + 43) 16 [] (X + 44) (X + 45) 16 [0] := fr_tx (F.1 41 (by decide)) (F.1 42 (by decide)) (F.1 43 (by decide)) (F.1 44 (by decide)) (F.1 45 (by decide))
theorem fr_ntx (F : fr cI str X h) : tx_at cI h (X + 46) (X + 47) (X + 48) 16 [] (X + 49) (X + 50) 16 [0] := fr_tx (F.1 46 (by decide)) (F.1 47 (by decide)) (F.1 48 (by decide)) (F.1 49 (by decide)) (F.1 50 (by decide))
theorem fr_xtx (F : fr cI str X h) : tx_at cI h (X + 60) (X + 61) (X + 62) 16 [] (X + 63) (X + 64) 16 [0] := fr_tx (F.1 60 (by decide)) (F.1 61 (by decide)) (F.1 62 (by decide)) (F.1 63 (by decide)) (F.1 64 (by decide))
theorem fr_nth (F : fr cI str X h) : tx_at cI h (X + 65) (X + 66) (X + 67) 16 [] (X + 68) (X + 69) 16 [0] := fr_tx (F.1 65 (by decide)) (F.1 66 (by decide)) (F.1 67 (by decide)) (F.1 68 (by decide)) (F.1 69 (by decide))
theorem szO_0 (t : Int32) : szO [0] t = -1 := by
  unfold szO
  by_cases h1 : t < 0
  · rw [if_pos h1]
  · rw [if_neg h1, if_pos]
    show (nI 1 - 1 : Int32) ≤ t
    rw [show (nI 1 - 1 : Int32) = 0 from by decide]
    exact Int32.not_lt.mp h1
theorem btO_0 (t i : Int32) : btO [] [0] t i = -1 := by
  unfold btO
  by_cases h1 : i < 0
  · rw [if_pos h1]
  · rw [if_neg h1, szO_0, if_pos]
    exact Int32.le_trans (by decide) (Int32.not_lt.mp h1)
theorem hdT_0 (f w : Int32) : hdT ((nI ([0] : List Int32).length - 1) / 2) f w = -1 := by
  unfold hdT
  by_cases h1 : f < 0
  · rw [if_pos h1]
  · rw [if_neg h1, if_pos]
    rw [show (nI ([0] : List Int32).length - 1 : Int32) / 2 = 0 from by decide]
    exact Int32.not_lt.mp h1
theorem c_Law_addresses (hE : gl_ex G s170) (F : fr cI str X h) (f : Int32) (o : Nat) : ct_E G m_Law_addresses [.ref X, .int f, .ref o] h (cr fun v h' => v = .int 1 ∧ h' = hp_more h 1 6) := by
  refine ct_ofH (hs := hs_Law_addresses) (ws' := tb_all) rfl rfl (Nat.le_of_ble_eq_true rfl) ?_
  refine ev_aload_n d_Law_addresses_0 rfl rfl ?_
  refine ev_iconst (v := 0) d_Law_addresses_1 (by decide) ?_
  refine ev_aload_n d_Law_addresses_2 rfl rfl ?_
  refine ev_iload_n d_Law_addresses_3 rfl rfl ?_
  refine ev_Vt (ci := 0) (a0 := 0) (a1 := 9) (hpc := 12) (ix := 13) [.int f] [.int 0, .ref o] ca_Law_addresses_7 d_Law_addresses_4 rfl (fr_X F) rfl (Nat.le_of_ble_eq_true rfl) (x_addresses hE (fr_X F) (fr_head F) (fr_htx F) f (hdT_0 f 1)) List.mem_cons_self (by decide) (by decide) (by decide) (List.mem_cons_of_mem _ tw_490) (fun U args hL => hE.2.1 U args hL _ (List.mem_of_getElem? (i := 7) rfl)) ?_
  refine ev_astore_n d_Law_addresses_12 rfl (by decide) ?_
  refine ev_iconst (v := 1) d_Law_addresses_13 (by decide) ?_
  refine ev_iret d_Law_addresses_14 rfl ?_
  exact ⟨_, rfl, rfl, rfl⟩
theorem c_Law_identities (hE : gl_ex G s170) (F : fr cI str X h) (f : Int32) (o : Nat) : ct_E G m_Law_identities [.ref X, .int f, .ref o] h (cr fun v h' => v = .int 1 ∧ h' = hp_more h 1 6) := by
  refine ct_ofH (hs := hs_Law_identities) (ws' := tb_all) rfl rfl (Nat.le_of_ble_eq_true rfl) ?_
  refine ev_aload_n d_Law_identities_0 rfl rfl ?_
  refine ev_iconst (v := 0) d_Law_identities_1 (by decide) ?_
  refine ev_aload_n d_Law_identities_2 rfl rfl ?_
  refine ev_iload_n d_Law_identities_3 rfl rfl ?_
  refine ev_Vt (ci := 0) (a0 := 0) (a1 := 9) (hpc := 12) (ix := 13) [.int f] [.int 0, .ref o] ca_Law_identities_15 d_Law_identities_4 rfl (fr_X F) rfl (Nat.le_of_ble_eq_true rfl) (x_identities hE (fr_X F) (fr_head F) (fr_htx F) f (hdT_0 f 1)) List.mem_cons_self (by decide) (by decide) (by decide) (List.mem_cons_of_mem _ tw_490) (fun U args hL => hE.2.1 U args hL _ (List.mem_of_getElem? (i := 7) rfl)) ?_
  refine ev_astore_n d_Law_identities_12 rfl (by decide) ?_
  refine ev_iconst (v := 1) d_Law_identities_13 (by decide) ?_
  refine ev_iret d_Law_identities_14 rfl ?_
  exact ⟨_, rfl, rfl, rfl⟩
theorem c_Law_date (hE : gl_ex G s170) (F : fr cI str X h) (f : Int32) (o : Nat) : ct_E G m_Law_date [.ref X, .int f, .ref o] h (cr fun v h' => v = .int 1 ∧ h' = hp_more h 1 6) := by
  refine ct_ofH (hs := hs_Law_date) (ws' := tb_all) rfl rfl (Nat.le_of_ble_eq_true rfl) ?_
  refine ev_aload_n d_Law_date_0 rfl rfl ?_
  refine ev_iconst (v := 0) d_Law_date_1 (by decide) ?_
  refine ev_aload_n d_Law_date_2 rfl rfl ?_
  refine ev_iload_n d_Law_date_3 rfl rfl ?_
  refine ev_Vt (ci := 0) (a0 := 0) (a1 := 8) (hpc := 11) (ix := 13) [.int f] [.int 0, .ref o] ca_Law_date_18 d_Law_date_4 rfl (fr_X F) rfl (Nat.le_of_ble_eq_true rfl) (x_date hE (fr_X F) (fr_head F) (fr_htx F) f (hdT_0 f 1)) List.mem_cons_self (by decide) (by decide) (by decide) (List.mem_cons_of_mem _ tw_490) (fun U args hL => hE.2.1 U args hL _ (List.mem_of_getElem? (i := 7) rfl)) ?_
  refine ev_astore_n d_Law_date_11 rfl (by decide) ?_
  refine ev_iconst (v := 1) d_Law_date_12 (by decide) ?_
  refine ev_iret d_Law_date_13 rfl ?_
  exact ⟨_, rfl, rfl, rfl⟩
theorem c_Law_type (hE : gl_ex G s170) (F : fr cI str X h) (f : Int32) (o : Nat) : ct_E G m_Law_type [.ref X, .int f, .ref o] h (cr fun v h' => v = .int 1 ∧ h' = hp_more h 1 6) := by
  refine ct_ofH (hs := hs_Law_type) (ws' := tb_all) rfl rfl (Nat.le_of_ble_eq_true rfl) ?_
  refine ev_aload_n d_Law_type_0 rfl rfl ?_
  refine ev_iconst (v := 0) d_Law_type_1 (by decide) ?_
  refine ev_aload_n d_Law_type_2 rfl rfl ?_
  refine ev_iload_n d_Law_type_3 rfl rfl ?_
  refine ev_Vt (ci := 0) (a0 := 0) (a1 := 16) (hpc := 19) (ix := 13) [.int f] [.int 0, .ref o] ca_Law_type_22 d_Law_type_4 rfl (fr_X F) rfl (Nat.le_of_ble_eq_true rfl) (x_type hE (fr_X F) (fr_head F) (fr_htx F) f (hdT_0 f 1)) List.mem_cons_self (by decide) (by decide) (by decide) (List.mem_cons_of_mem _ tw_490) (fun U args hL => hE.2.1 U args hL _ (List.mem_of_getElem? (i := 7) rfl)) ?_
  refine ev_astore_n d_Law_type_19 rfl (by decide) ?_
  refine ev_iconst (v := 1) d_Law_type_20 (by decide) ?_
  refine ev_iret d_Law_type_21 rfl ?_
  exact ⟨_, rfl, rfl, rfl⟩
end FRESH
