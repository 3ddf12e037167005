section SCRIPT
variable {G : gl_G} {μ : mt_M} {pc : Nat} {lv : List (Nat × Value)} {st : List Value} {Z : Option Value → hp_T → Prop} {b L B1 B2 : Nat} {xs : Nat → Int32} {h : hp_T}
/-- the script lies below -/
def gl_sc (G : gl_G) (b L : Nat) (xs : Nat → Int32) : Prop := ∀ U : State, gl_L G U → va_X b L xs U U.heap ∧ b < U.heap.size ∧ ¬ gl_b G ≤ b
theorem ev_sld {i : Int32} (hSc : gl_sc G b L xs) (hin : vp_in i L) (hd : decode (mt_b μ) pc = .ok (.iaload, 1)) (kk : ev_E G μ (pc + 1) lv (.int (xs i.toNatClampNeg) :: st) h Z) : ev_E G μ pc lv (.int i :: .ref b :: st) h Z :=
  ev_pure (fun p e R s m args below meth c C H locs cells slots Q ls hO hS hl k => by
    obtain ⟨hx, hb, hml, hr, hown, hts, hlocks, hname, hK, hL, hbs, -⟩ := C
    obtain ⟨s1, s2, s3⟩ := hSc s hL
    exact va_sld hx hb s1 s2 s3 hS hin hd (k ls hl)) kk
theorem ev_slen (hSc : gl_sc G b L xs) (hd : decode (mt_b μ) pc = .ok (.arraylength, 1)) (kk : ev_E G μ (pc + 1) lv (.int (nI L) :: st) h Z) : ev_E G μ pc lv (.ref b :: st) h Z :=
  ev_pure (fun p e R s m args below meth c C H locs cells slots Q ls hO hS hl k => by
    obtain ⟨hx, hb, hml, hr, hown, hts, hlocks, hname, hK, hL, hbs, -⟩ := C
    obtain ⟨s1, s2, s3⟩ := hSc s hL
    exact va_slen hx hb s1 s2 s3 hS hd (k ls hl)) kk
/-- what the law answers, and how much it made -/
abbrev lz (B1 B2 : Nat) : Option Value → hp_T → Prop := fun v h' => v = some (.int 1) ∧ h'.1 ≤ B1 ∧ h'.2.1 ≤ B2
end SCRIPT
