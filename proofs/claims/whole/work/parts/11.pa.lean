/-! PURE PART: the two functions keep one relation. Basics: numerals, guards, memories -/
theorem pa_lit (n : Nat) : (OfNat.ofNat n : Int32) = nI (OfNat.ofNat n) := rfl
theorem pl0 : (0 : Int32) = nI 0 := rfl
theorem pl1 : (1 : Int32) = nI 1 := rfl
theorem pl2 : (2 : Int32) = nI 2 := rfl
theorem pl3 : (3 : Int32) = nI 3 := rfl
theorem pl4 : (4 : Int32) = nI 4 := rfl
theorem pl5 : (5 : Int32) = nI 5 := rfl
theorem pl6 : (6 : Int32) = nI 6 := rfl
theorem pl7 : (7 : Int32) = nI 7 := rfl
theorem pl8 : (8 : Int32) = nI 8 := rfl
theorem pl9 : (9 : Int32) = nI 9 := rfl
theorem pl10 : (10 : Int32) = nI 10 := rfl
theorem pl11 : (11 : Int32) = nI 11 := rfl
theorem pl12 : (12 : Int32) = nI 12 := rfl
theorem pl16 : (16 : Int32) = nI 16 := rfl
theorem pl20 : (20 : Int32) = nI 20 := rfl
theorem pl24 : (24 : Int32) = nI 24 := rfl
theorem pl32 : (32 : Int32) = nI 32 := rfl
theorem pl36 : (36 : Int32) = nI 36 := rfl
theorem pl60 : (60 : Int32) = nI 60 := rfl
theorem pl63 : (63 : Int32) = nI 63 := rfl
theorem pl64 : (64 : Int32) = nI 64 := rfl
theorem pl65 : (65 : Int32) = nI 65 := rfl
theorem pl69 : (69 : Int32) = nI 69 := rfl
theorem pl70 : (70 : Int32) = nI 70 := rfl
theorem pl72 : (72 : Int32) = nI 72 := rfl
theorem pl75 : (75 : Int32) = nI 75 := rfl
theorem pl76 : (76 : Int32) = nI 76 := rfl
theorem pl77 : (77 : Int32) = nI 77 := rfl
theorem pl78 : (78 : Int32) = nI 78 := rfl
theorem pl79 : (79 : Int32) = nI 79 := rfl
theorem pl80 : (80 : Int32) = nI 80 := rfl
theorem pl81 : (81 : Int32) = nI 81 := rfl
theorem pl96 : (96 : Int32) = nI 96 := rfl
theorem pl97 : (97 : Int32) = nI 97 := rfl
theorem pl99 : (99 : Int32) = nI 99 := rfl
theorem pl100 : (100 : Int32) = nI 100 := rfl
theorem pl103 : (103 : Int32) = nI 103 := rfl
theorem pl104 : (104 : Int32) = nI 104 := rfl
theorem pl119 : (119 : Int32) = nI 119 := rfl
theorem pl120 : (120 : Int32) = nI 120 := rfl
theorem pl127 : (127 : Int32) = nI 127 := rfl
theorem pl128 : (128 : Int32) = nI 128 := rfl
theorem pl134 : (134 : Int32) = nI 134 := rfl
theorem pl139 : (139 : Int32) = nI 139 := rfl
theorem pl140 : (140 : Int32) = nI 140 := rfl
theorem pl192 : (192 : Int32) = nI 192 := rfl
theorem pl200 : (200 : Int32) = nI 200 := rfl
theorem pl201 : (201 : Int32) = nI 201 := rfl
theorem pl255 : (255 : Int32) = nI 255 := rfl
theorem pl256 : (256 : Int32) = nI 256 := rfl
theorem pl7680 : (7680 : Int32) = nI 7680 := rfl
theorem pl16800 : (16800 : Int32) = nI 16800 := rfl
theorem pa_let {α β : Type} (v : α) (b : α → β) : sd_let v b = b v := rfl
theorem pa_gd {β : Type} (x : Option β) : sd_gd true x = x := rfl
theorem pa_bi {β : Type} (x : Int32) (μ : sd_Me) (k : Int32 → sd_Me → Option β) : sd_bi (some (x, μ)) k = k x μ := rfl
theorem pa_bl {β : Type} (x : Int64) (μ : sd_Me) (k : Int64 → sd_Me → Option β) : sd_bl (some (x, μ)) k = k x μ := rfl
theorem pa_bv {β : Type} (μ : sd_Me) (k : sd_Me → Option β) : sd_bv (some μ) k = k μ := rfl
theorem pa_ix {n N : Nat} (h : n < N) (hN : N < 2 ^ 31) : sd_ix (nI n) N = true := by
  simp only [sd_ix, Bool.and_eq_true, decide_eq_true_eq]
  rw [nI_toInt (by omega)]
  constructor <;> omega
theorem pa_cp {a b n N M : Nat} (h1 : a + n ≤ N) (h2 : b + n ≤ M) (hN : N < 2 ^ 31) (hM : M < 2 ^ 31) : sd_cpOk (nI a) (nI b) (nI n) N M = true := by
  simp only [sd_cpOk, Bool.and_eq_true, decide_eq_true_eq]
  rw [nI_clamp (by omega), nI_clamp (by omega), nI_clamp (by omega)]
  exact ⟨nI_pos (by omega), nI_pos (by omega), nI_pos (by omega), h1, h2⟩
theorem pa_m1 {n : Nat} : nI (n + 1) + (-1) = nI n := pk_m1 n
theorem pa_neg1 : ¬ ((-1 : Int32) = nI 0) := by decide
theorem pa_st (μ : sd_Me) (c i : Nat) (v : Int32) : (sd_st μ c i v).1 = fun k => if k = c then upd (μ.1 c) i v else μ.1 k := rfl
theorem pa_st2 (μ : sd_Me) (c i : Nat) (v : Int32) : (sd_st μ c i v).2 = μ.2 := rfl
theorem pa_ss (μ : sd_Me) (c i : Nat) (v : Int32) : (sd_st μ c i v).1 c i = v := by simp [sd_st, sd_mrow, upd]
theorem pa_sn (μ : sd_Me) (c i j : Nat) (v : Int32) (h : j ≠ i) : (sd_st μ c i v).1 c j = μ.1 c j := by simp [sd_st, sd_mrow, upd, h]
theorem pa_sc (μ : sd_Me) (c k i : Nat) (v : Int32) (h : k ≠ c) : (sd_st μ c i v).1 k = μ.1 k := by simp [sd_st, sd_mrow, h]
theorem pa_rs (μ : sd_Me) (c : Nat) (f : Nat → Int32) : (sd_mrow μ c f).1 c = f := if_pos rfl
theorem pa_rc (μ : sd_Me) (c k : Nat) (f : Nat → Int32) (h : k ≠ c) : (sd_mrow μ c f).1 k = μ.1 k := if_neg h
/-- elements, bytes -/
abbrev El : Type := List Int32
def isB (x : Int32) : Prop := ∃ b : Nat, b < 256 ∧ x = nI b
def okE (e : El) : Prop := e.length ≤ 120 ∧ ∀ k, k < e.length → isB (e.getD k 0)
def okS (S : List El) : Prop := ∀ i, i < S.length → okE (S.getD i [])
/-- memories that differ in these cells alone -/
def Fr (L : List Nat) (μ μ' : sd_Me) : Prop := (∀ c, c ∉ L → μ'.1 c = μ.1 c) ∧ μ'.2 = μ.2
theorem Fr.rf {L : List Nat} {μ : sd_Me} : Fr L μ μ := ⟨fun _ _ => rfl, rfl⟩
theorem Fr.tr {L : List Nat} {a b c : sd_Me} (h : Fr L a b) (g : Fr L b c) : Fr L a c := ⟨fun k hk => (g.1 k hk).trans (h.1 k hk), g.2.trans h.2⟩
theorem Fr.st {L : List Nat} {μ : sd_Me} {c i : Nat} {v : Int32} (h : c ∈ L) : Fr L μ (sd_st μ c i v) := ⟨fun k hk => pa_sc μ c k i v (fun e => hk (e ▸ h)), rfl⟩
theorem Fr.row {L : List Nat} {μ : sd_Me} {c : Nat} {f : Nat → Int32} (h : c ∈ L) : Fr L μ (sd_mrow μ c f) := ⟨fun k hk => pa_rc μ c k f (fun e => hk (e ▸ h)), rfl⟩
theorem Fr.mono {L M : List Nat} {a b : sd_Me} (h : Fr L a b) (hs : ∀ c ∈ L, c ∈ M) : Fr M a b := ⟨fun k hk => h.1 k (fun z => hk (hs k z)), h.2⟩
/-! the class's elements -/
def Slot (μ : sd_Me) (t : Nat) (e : El) : Prop := μ.1 4 t = nI e.length ∧ ∀ k, k < e.length → μ.1 3 (120 * t + k) = e.getD k 0
def AX (μ : sd_Me) (S T : List El) : Prop := ∃ o : Nat → Nat, μ.1 2 4 = nI S.length ∧ μ.1 2 3 = nI T.length ∧ S.length + T.length ≤ 64 ∧ (∀ i, i < 64 → o i < 64) ∧ (∀ i j, i < 64 → j < 64 → o i = o j → i = j) ∧ (∀ i, i < 64 → μ.1 5 i = nI (o i)) ∧ (∀ i, i < S.length → Slot μ (o (S.length - 1 - i)) (S.getD i [])) ∧ (∀ j, j < T.length → Slot μ (o (64 - T.length + j)) (T.getD j [])) ∧ okS S ∧ okS T
theorem X_len {μ : sd_Me} {S T : List El} (h : AX μ S T) {k : Nat} (hk : k < S.length) : fn_Elements_lengthAt_r2 (nI k) μ = some (nI (S.getD k []).length, μ) := by
  obtain ⟨o, h1, h2, h3, h4, h5, h6, h7, h8, h9, h10⟩ := h
  have a1 := h7 k hk
  have a2 := h4 (S.length - 1 - k) (by omega)
  have a3 := h6 (S.length - 1 - k) (by omega)
  have a4 : nI S.length - nI 1 - nI k = nI (S.length - 1 - k) := by rw [pk_sub (by omega), pk_sub (by omega)]
  unfold fn_Elements_lengthAt_r2
  simp (disch := omega) only [h1, pa_lit, nI_ltI, a4, pa_ix, pa_gd, nI_clamp, a3, a1.1, hk, if_true, Nat.not_lt_zero, if_false]
theorem X_len_out {μ : sd_Me} {S T : List El} (h : AX μ S T) {x : Int32} (hx : x < 0 ∨ nI S.length ≤ x) : fn_Elements_lengthAt_r2 x μ = some (-1, μ) := by
  obtain ⟨o, h1, h2, h3, h4, h5, h6, h7, h8, h9, h10⟩ := h
  unfold fn_Elements_lengthAt_r2
  rw [h1]
  by_cases c : x < 0
  · rw [if_pos c]
  · rw [if_neg c]
    rcases hx with hx | hx
    · exact absurd hx c
    · rw [if_neg (Int32.not_lt.mpr hx)]
