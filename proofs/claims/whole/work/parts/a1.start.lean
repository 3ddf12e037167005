/-! what lies below, for every part of the whole -/
section START3
abbrev bA (base : Nat) : Nat → Prop := fun q => base ≤ q
def sgA : List Int32 := [60, 62, 58, 59, 64, 44, 46, 41, 93, 92]
def sgB : List Int32 := [60, 62, 58, 59, 64, 44, 41, 93, 92, 61, 47]
/-- a constant String, as its class loads it, and what it holds -/
def sS (own : String) (k : Nat) (tx : String) (str arr : Nat) (cs : List Int32) (base : Nat) (U : State) : Prop := vk_R own k tx str U ∧ va_O "java/lang/String" str (bA base) U U.heap ∧ va_OF "java/lang/String" "coder" "B" (.int 0) str (bA base) U U.heap ∧ va_OF "java/lang/String" "value" "[B" (.ref arr) str (bA base) U U.heap ∧ va_T .byte arr cs.length (fun j => .int (cs.getD j 0)) (bA base) U U.heap
theorem sS.go {own tx : String} {k str arr base : Nat} {cs : List Int32} {U V : State} (hW : U.WarmedH V.vm) (hq : ∀ q : Nat, q < U.heap.size → ¬ base ≤ q → V.heap[q]? = U.heap[q]?) (h : sS own k tx str arr cs base U) : sS own k tx str arr cs base V :=
  ⟨vk_R.warm hW h.1, va_O.moved hW.alike (h.2.1.kept hq), va_OF.moved hW.alike (h.2.2.1.kept hq), va_OF.moved hW.alike (h.2.2.2.1.kept hq), va_T.moved hW.alike (h.2.2.2.2.kept hq)⟩
def sT (nm : String) (t : Nat) (l : List Int32) (base : Nat) (U : State) : Prop := va_Z "MailHeads$DateReader" nm "[I" (.ref t) (bA base) U U.heap ∧ va_T .int t l.length (fun j => .int (l.getD j 0)) (bA base) U U.heap
theorem sT.go {nm : String} {t base : Nat} {l : List Int32} {U V : State} (hW : U.WarmedH V.vm) (hq : ∀ q : Nat, q < U.heap.size → ¬ base ≤ q → V.heap[q]? = U.heap[q]?) (h : sT nm t l base U) : sT nm t l base V := ⟨va_Z.moved hW.alike (h.1.kept hq), va_T.moved hW.alike (h.2.kept hq)⟩
def fmC : String := "jdk/internal/util/Preconditions"
def fmD : String := "Ljava/util/function/BiFunction;"
def lw_E (ad : Nat → Nat) (fm : Value) (base : Nat) (U : State) : Prop := (∀ w ∈ nst, va_Nw w U) ∧ (va_Z "java/lang/String" "COMPACT_STRINGS" "Z" (.int 1) (bA base) U U.heap ∧ va_Z fmC "SIOOBE_FORMATTER" fmD fm (bA base) U U.heap) ∧ (sS "MailHeads" 120 "<>:;@,.)]\\" (ad 0) (ad 1) sgA base U ∧ sS "MailHeads" 140 "<>:;@,)]\\=/" (ad 2) (ad 3) sgB base U) ∧ (sS "MailHeads$DateReader" 81 "janfebmaraprmayjunjulaugsepoctnovdec" (ad 4) (ad 5) moL base U ∧ sS "MailHeads$DateReader" 108 "estedtcstcdtmstmdtpstpdt" (ad 6) (ad 7) znL base U) ∧ sT "MONTH_DAYS" (ad 8) mdL base U ∧ sT "ZONE_HOURS" (ad 9) zhL base U
theorem nst_go : ∀ w ∈ nst, ∀ U V : State, U.WarmedH V.vm → va_Nw w U → va_Nw w V := by
  intro w hw U V hW h
  simp only [nst, List.mem_cons, List.not_mem_nil, or_false] at hw
  rcases hw with rfl | rfl | rfl | rfl | rfl | rfl | rfl <;> exact va_Nw.warmM hW h
theorem lw_E_go {ad : Nat → Nat} {fm : Value} {base : Nat} {U V : State} (hW : U.WarmedH V.vm) (hq : ∀ q : Nat, q < U.heap.size → ¬ base ≤ q → V.heap[q]? = U.heap[q]?) (k : lw_E ad fm base U) : lw_E ad fm base V := by
  obtain ⟨k1, ⟨k2, k3⟩, ⟨k4, k5⟩, ⟨k6, k7⟩, k8, k9⟩ := k
  exact ⟨fun w hw => nst_go w hw U V hW (k1 w hw), ⟨va_Z.moved hW.alike (k2.kept hq), va_Z.moved hW.alike (k3.kept hq)⟩, ⟨k4.go hW hq, k5.go hW hq⟩, ⟨k6.go hW hq, k7.go hW hq⟩, k8.go hW hq, k9.go hW hq⟩
def lw_L3 (b L : Nat) (xs : Nat → Int32) (sg s170 base : Nat) (ad : Nat → Nat) (fm : Value) : State → Prop := fun U => lw_L b L xs sg s170 base U ∧ lw_E ad fm base U
abbrev lw_G3 (l : Launch) (b L : Nat) (xs : Nat → Int32) (sg s170 base : Nat) (ad : Nat → Nat) (fm : Value) (D : va_G) (cI cZ cJ : ClassId) : gl_G := (l, base, D, [(cI, .int), (cZ, .boolean), (cJ, .long)], lw_L3 b L xs sg s170 base ad fm)
variable {l : Launch} {b L : Nat} {xs : Nat → Int32} {sg s170 base : Nat} {ad : Nat → Nat} {fm : Value} {D : va_G} {cI cZ cJ : ClassId}
theorem l3_ok (hb : b < base) : gl_ok (lw_G3 l b L xs sg s170 base ad fm D cI cZ cJ) := fun _ _ hW hq k => ⟨lw_L_ok hb hW hq k.1, lw_E_go hW hq k.2⟩
theorem l3_sc (hb : b < base) : gl_sc (lw_G3 l b L xs sg s170 base ad fm D cI cZ cJ) b L xs := fun _ k => ⟨k.1.1.1, k.1.1.2, Nat.not_le.mpr hb⟩
theorem l3_sg : gl_sg (lw_G3 l b L xs sg s170 base ad fm D cI cZ cJ) sg := fun _ k => k.1.2.1.1
theorem l3_ex (hf : l.flags = pinnedFlags ++ [noTraceFlag]) : gl_ex (lw_G3 l b L xs sg s170 base ad fm D cI cZ cJ) s170 := by
  obtain ⟨e1, e2, e3⟩ := lw_gex (l := l) (b := b) (L := L) (xs := xs) (sg := sg) (s170 := s170) (base := base) (D := D) (cI := cI) (cZ := cZ) (cJ := cJ) hf
  exact ⟨fun U k => e1 U k.1, fun U args k => e2 U args k.1, e3⟩
theorem l3_nm : gl_nm (lw_G3 l b L xs sg s170 base ad fm D cI cZ cJ) := fun _ k => k.2.1
theorem l3_cs : gCS (lw_G3 l b L xs sg s170 base ad fm D cI cZ cJ) := fun _ k => k.2.2.1.1
theorem l3_fm (hv : fm = .null ∨ ∃ t : Nat, fm = .ref t) : gFm (lw_G3 l b L xs sg s170 base ad fm D cI cZ cJ) := ⟨fm, hv, fun _ k => k.2.2.1.2⟩
theorem l3_st0 : gSt (lw_G3 l b L xs sg s170 base ad fm D cI cZ cJ) (ad 0) (ad 1) sgA := ⟨fun _ k => k.2.2.2.1.1.2.1, fun _ k => k.2.2.2.1.1.2.2.1, fun _ k => k.2.2.2.1.1.2.2.2.1, fun _ k => k.2.2.2.1.1.2.2.2.2⟩
theorem l3_st1 : gSt (lw_G3 l b L xs sg s170 base ad fm D cI cZ cJ) (ad 2) (ad 3) sgB := ⟨fun _ k => k.2.2.2.1.2.2.1, fun _ k => k.2.2.2.1.2.2.2.1, fun _ k => k.2.2.2.1.2.2.2.2.1, fun _ k => k.2.2.2.1.2.2.2.2.2⟩
theorem l3_st2 : gSt (lw_G3 l b L xs sg s170 base ad fm D cI cZ cJ) (ad 4) (ad 5) moL := ⟨fun _ k => k.2.2.2.2.1.1.2.1, fun _ k => k.2.2.2.2.1.1.2.2.1, fun _ k => k.2.2.2.2.1.1.2.2.2.1, fun _ k => k.2.2.2.2.1.1.2.2.2.2⟩
theorem l3_st3 : gSt (lw_G3 l b L xs sg s170 base ad fm D cI cZ cJ) (ad 6) (ad 7) znL := ⟨fun _ k => k.2.2.2.2.1.2.2.1, fun _ k => k.2.2.2.2.1.2.2.2.1, fun _ k => k.2.2.2.2.1.2.2.2.2.1, fun _ k => k.2.2.2.2.1.2.2.2.2.2⟩
theorem sn_of {G : gl_G} {str arr : Nat} {cs : List Int32} (hC : gCS G) (hs : gSt G str arr cs) (hn : cs.length < 2 ^ 30) (h0 : 0 < cs.length) : gSn G str := ⟨hs.1, fun h c => ct_to (s_indexOf hC hs hn h0 c) (fun o h' z => ⟨_, z.1, ⟨_, rfl⟩, z.2⟩)⟩
theorem sl_of {G : gl_G} {str arr : Nat} {cs : List Int32} (hC : gCS G) (hF : gFm G) (hs : gSt G str arr cs) (hn : cs.length < 2 ^ 30) (hc : ∀ k, k < cs.length → cs.getD k 0 &&& 255 = cs.getD k 0) : gSl G str cs := ⟨hs.1, fun h => s_length hC hs hn, fun h k hk => by have := s_charAt (h := h) hC hF hs hn hk; rw [hc k hk] at this; exact this⟩
theorem l3_Sg : gSg (lw_G3 l b L xs sg s170 base ad fm D cI cZ cJ) (ad 0) (ad 2) := ⟨⟨fun _ k => k.2.2.2.1.1.1, sn_of l3_cs l3_st0 (by decide) (by decide)⟩, fun _ k => k.2.2.2.1.2.1, sn_of l3_cs l3_st1 (by decide) (by decide)⟩
theorem l3_Dt (hv : fm = .null ∨ ∃ t : Nat, fm = .ref t) : gDt (lw_G3 l b L xs sg s170 base ad fm D cI cZ cJ) (ad 8) (ad 9) (ad 4) (ad 6) := ⟨⟨⟨fun _ k => k.2.2.2.2.2.1.1, fun _ k => k.2.2.2.2.2.1.2⟩, ⟨fun _ k => k.2.2.2.2.2.2.1, fun _ k => k.2.2.2.2.2.2.2⟩⟩, ⟨fun _ k => k.2.2.2.2.1.1.1, sl_of l3_cs (l3_fm hv) l3_st2 (by decide) (by decide +kernel)⟩, fun _ k => k.2.2.2.2.1.2.1, sl_of l3_cs (l3_fm hv) l3_st3 (by decide) (by decide +kernel)⟩
theorem sg_A : ∀ n, n < 256 → (ixO sgA ((nI n).toUInt32 % 65536).toInt32 < 0 ↔ isSg false (nI n) = false) := by decide +kernel
theorem sg_B : ∀ n, n < 256 → (ixO sgB ((nI n).toUInt32 % 65536).toInt32 < 0 ↔ isSg true (nI n) = false) := by decide +kernel
theorem ss_of {G : gl_G} {str arr : Nat} {cs : List Int32} {ty : Bool} (hC : gCS G) (hs : gSt G str arr cs) (hn : cs.length < 2 ^ 30) (h0 : 0 < cs.length) (hc : ∀ n, n < 256 → (ixO cs ((nI n).toUInt32 % 65536).toInt32 < 0 ↔ isSg ty (nI n) = false)) : gSs G str ty := ⟨hs.1, fun h c hb => by
  obtain ⟨n, h1, rfl⟩ := hb
  exact ct_to (s_indexOf hC hs hn h0 _) (fun o h' z => ⟨_, z.1, ⟨_, rfl, hc n h1⟩, z.2⟩)⟩
theorem l3_S2 : gS2 (lw_G3 l b L xs sg s170 base ad fm D cI cZ cJ) (ad 0) (ad 2) := ⟨ss_of l3_cs l3_st0 (by decide) (by decide) sg_A, ss_of l3_cs l3_st1 (by decide) (by decide) sg_B⟩
/-- a constant String out of the given -/
theorem sS_of {args : Array Value} {s : State} {own tx : String} {k n0 : Nat} {cs : List Int32} (hts : ∀ w ∈ lw_tbl, w.before args s = true) (hw : Cond.stringRef own k tx ∈ lw_tbl) (hc : Cond.instantiable own n0 ∈ lw_tbl) (hN : cs.length < 2 ^ 31) (hex : (Cond.exactly (.string own k) "java/lang/String").before args s = true) (hco : (Cond.eq (.field (.string own k) "java/lang/String" "coder" "B") (.int 0)).before args s = true) (har : (Cond.arrayOf (.field (.string own k) "java/lang/String" "value" "[B") .byte).before args s = true) (hle : (Cond.eq (.length (.field (.string own k) "java/lang/String" "value" "[B")) (.int (Int32.ofNat cs.length))).before args s = true) (hel : ∀ j : Nat, j < cs.length → (Cond.eq (.elem (.field (.string own k) "java/lang/String" "value" "[B") (.int (Int32.ofNat j))) (.int (cs.getD j 0))).before args s = true) : ∃ str arr : Nat, sS own k tx str arr cs s.heap.size s := by
  have hA : ∀ a : Nat, a < s.heap.size → ¬ bA s.heap.size a := fun a ha => Nat.not_le.mpr ha
  obtain ⟨a, ha⟩ := lw_str hts hw hc
  obtain ⟨adK, adV, hS, hE⟩ := vk_Sof (args := args) (s := s) (N := 1) (tm := fun _ => .string own k) (len := [cs.length]) (byt := [cs]) (A := bA s.heap.size) (fun i hi => by rw [show i = 0 by omega]; exact hN) (fun _ _ => hex) (fun _ _ => hco) (fun _ _ => har) (fun i hi => by rw [show i = 0 by omega]; exact hle) (fun i hi j hj => by
    have e : i = 0 := by omega
    subst e
    exact hel j hj) (fun i j hi hj hij => absurd (show i = j by omega) hij) hA
  obtain ⟨h1, h2, h3, h4⟩ := hS.1 0 (by decide)
  have e : adK 0 = a := by
    have q1 : (Term.string own k).eval args s none [] s = some (.ref (adK 0)) := hE 0 (by decide)
    have q2 : (Term.string own k).eval #[] s none [] s = some (.ref a) := ha.2
    have q3 : (Term.string own k).eval args s none [] s = (Term.string own k).eval #[] s none [] s := rfl
    rw [q3, q2] at q1
    cases q1
    rfl
  exact ⟨adK 0, adV 0, by rw [e]; exact ha, h1, h2, h3, h4⟩
theorem sT_of {args : Array Value} {s : State} {nm : String} {l : List Int32} (hl : (Cond.laysStatic "MailHeads$DateReader" nm "[I").before args s = true) (hini : (Cond.initialized "MailHeads$DateReader").before args s = true) (hN : l.length < 2 ^ 31) (har : (Cond.arrayOf (.static "MailHeads$DateReader" nm "[I") .int).before args s = true) (hle : (Cond.eq (.length (.static "MailHeads$DateReader" nm "[I")) (.int (Int32.ofNat l.length))).before args s = true) (hel : ∀ j : Nat, j < l.length → (Cond.eq (.elem (.static "MailHeads$DateReader" nm "[I") (.int (Int32.ofNat j))) (.int (l.getD j 0))).before args s = true) : ∃ t : Nat, sT nm t l s.heap.size s := by
  have hA : ∀ a : Nat, a < s.heap.size → ¬ bA s.heap.size a := fun a ha => Nat.not_le.mpr ha
  obtain ⟨t, ht, hT⟩ := va_Tof (f := fun j => .int (l.getD j 0)) (A := bA s.heap.size) hN har (va_eqt hle) (fun j hj => va_eqt (hel j hj)) hA
  exact ⟨t, va_Zref hl hini ht hA, hT⟩
end START3
