/-! numbers: read -/
def vg (e : El) : Nat → Int64
  | 0 => 0
  | j + 1 => vg e j * 256 + Int32.toInt64 (if j = 0 then e.getD (e.length - 1) 0 &&& 127 else e.getD (e.length - 1 - j) 0)
def vnum (e : El) : Int64 := if e.length = 0 then 0 else if e.getD (e.length - 1) 0 < 128 then vg e e.length else -vg e e.length
theorem X_numL {μ : sd_Me} {S T : List El} (h : AX μ S T) {k : Nat} (hk : k < S.length) {kk : Int32 → Int32 → Int64 → sd_Me → Option (Int64 × sd_Me)} {y : Int32} : ∀ (r f : Nat), r + 1 ≤ (S.getD k []).length → r < f → fn_Elements_numberAt_r2_L35 kk f (nI k) y (vg (S.getD k []) ((S.getD k []).length - r)) (nI r + (-1)) μ = kk (nI k) y (vg (S.getD k []) (S.getD k []).length) μ := by
  have hok := (h.ok hk).1
  intro r
  induction r with
  | zero =>
    intro f h1 h2
    obtain ⟨f, rfl⟩ : ∃ g, f = g + 1 := ⟨f - 1, by omega⟩
    rw [fn_Elements_numberAt_r2_L35, if_pos (by decide)]
    rfl
  | succ r ih =>
    intro f h1 h2
    obtain ⟨f, rfl⟩ : ∃ g, f = g + 1 := ⟨f - 1, by omega⟩
    rw [fn_Elements_numberAt_r2_L35, pk_m1, if_neg (nI_pos (by omega)), X_oct h hk (by omega), pa_bi, pa_let]
    have e : vg (S.getD k []) ((S.getD k []).length - (r + 1)) * 256 + Int32.toInt64 ((S.getD k []).getD r 0) = vg (S.getD k []) ((S.getD k []).length - r) := by
      obtain ⟨z, hz⟩ : ∃ z, (S.getD k []).length - (r + 1) = z + 1 := ⟨(S.getD k []).length - (r + 1) - 1, by omega⟩
      rw [show (S.getD k []).length - r = (z + 1) + 1 by omega, hz]
      conv => rhs; rw [vg]
      rw [if_neg (Nat.succ_ne_zero z), show (S.getD k []).length - 1 - (z + 1) = r by omega]
    rw [e]
    exact ih f (by omega) (by omega)
theorem pa_subm {n : Nat} : nI n - 1 = nI n + (-1) := by
  rw [Int32.sub_eq_add_neg]
theorem X_num {μ : sd_Me} {S T : List El} (h : AX μ S T) {k : Nat} (hk : k < S.length) (h4 : (S.getD k []).length ≤ 4) : fn_Elements_numberAt_r2 (nI k) μ = some (vnum (S.getD k []), μ) := by
  unfold fn_Elements_numberAt_r2 vnum
  rw [X_len h hk, pa_bi, pa_let]
  by_cases c : (S.getD k []).length = 0
  · rw [c, if_pos rfl, if_pos (by decide)]
  · rw [if_neg c]
    have e1 : nI (S.getD k []).length - 1 = nI ((S.getD k []).length - 1) := by rw [pl1, pk_sub (by omega)]
    have e2 : Int32.toInt64 ((S.getD k []).getD ((S.getD k []).length - 1) 0 &&& 127) = vg (S.getD k []) ((S.getD k []).length - ((S.getD k []).length - 1)) := by
      rw [show (S.getD k []).length - ((S.getD k []).length - 1) = 0 + 1 by omega, vg, vg, if_pos rfl]
      simp
    rw [e1, if_neg (nI_pos (by omega)), pl4, if_pos ((nI_ltI (by omega) (by omega)).mpr (by omega)), X_oct h hk (by omega), pa_bi, pa_let, pa_let, pa_subm, e2, X_numL h hk ((S.getD k []).length - 1) 10000 (by omega) (by omega), X_oct h hk (by omega), pa_bi]
    split <;> rfl
/-! numbers: written -/
def nd (a : Nat) : Nat := if h : a = 0 then 0 else nd (a / 256) + 1
termination_by a
decreasing_by omega
theorem nd_0 : nd 0 = 0 := by rw [nd]; simp
theorem nd_s {a : Nat} (h : a ≠ 0) : nd a = nd (a / 256) + 1 := by rw [nd]; simp [h]
/-- how long a number is with its sign -/
def nm_ (a : Nat) : Nat := if 0 < nd a ∧ 128 ≤ a / 256 ^ (nd a - 1) % 256 then nd a + 1 else nd a
def encB (a : Nat) (neg : Bool) (j : Nat) : Nat := (if j < nd a then a / 256 ^ j % 256 else 0) + (if neg = true ∧ j + 1 = nm_ a then 128 else 0)
def enc (a : Nat) (neg : Bool) : El := (List.range (nm_ a)).map (fun j => nI (encB a neg j))
theorem enc_len {a : Nat} {neg : Bool} : (enc a neg).length = nm_ a := by simp [enc]
theorem enc_get {a : Nat} {neg : Bool} {j : Nat} (h : j < nm_ a) : (enc a neg).getD j 0 = nI (encB a neg j) := by simp [enc, List.getD_eq_getElem?_getD, h]
theorem nd_div : ∀ (k a : Nat), k ≤ nd a → nd (a / 256 ^ k) = nd a - k := by
  intro k
  induction k with
  | zero => intro a _; simp
  | succ k ih =>
    intro a h
    have h0 : a ≠ 0 := fun z => by rw [z, nd_0] at h; omega
    have h1 := nd_s h0
    have e := ih (a / 256) (by omega)
    rw [Nat.pow_succ, Nat.mul_comm, ← Nat.div_div_eq_div_mul, e, h1]
    omega
theorem nd_lt_pos {a k : Nat} (h : k < nd a) : 0 < a / 256 ^ k := by
  have e := nd_div k a (by omega)
  rcases Nat.eq_zero_or_pos (a / 256 ^ k) with z | z
  · rw [z, nd_0] at e; omega
  · exact z
theorem nd_end {a : Nat} : a / 256 ^ nd a = 0 := by
  have e := nd_div (nd a) a (Nat.le_refl _)
  rw [Nat.sub_self] at e
  rcases Nat.eq_zero_or_pos (a / 256 ^ nd a) with z | z
  · exact z
  · rw [nd_s (by omega)] at e; omega
theorem nd_le : ∀ (k a : Nat), a < 256 ^ k → nd a ≤ k := by
  intro k
  induction k with
  | zero => intro a h; rw [show a = 0 by omega, nd_0]; exact Nat.le_refl 0
  | succ k ih =>
    intro a h
    by_cases c : a = 0
    · rw [c, nd_0]; exact Nat.zero_le _
    · rw [nd_s c]
      have := ih (a / 256) (by rw [Nat.div_lt_iff_lt_mul (by decide)]; rw [Nat.pow_succ] at h; exact h)
      omega
theorem nm_le {a : Nat} : nd a ≤ nm_ a ∧ nm_ a ≤ nd a + 1 := by
  unfold nm_
  split <;> omega
theorem enc_top {a : Nat} (h : 0 < nd a) : (if nm_ a - 1 < nd a then a / 256 ^ (nm_ a - 1) % 256 else 0) < 128 := by
  unfold nm_
  by_cases c : 0 < nd a ∧ 128 ≤ a / 256 ^ (nd a - 1) % 256
  · rw [if_pos c, Nat.add_sub_cancel, if_neg (Nat.lt_irrefl _)]; decide
  · rw [if_neg c, if_pos (by omega)]
    rcases Nat.lt_or_ge (a / 256 ^ (nd a - 1) % 256) 128 with z | z
    · exact z
    · exact absurd ⟨h, z⟩ c
theorem encB_lt {a : Nat} {neg : Bool} {j : Nat} (h : 0 < nd a) : encB a neg j < 256 := by
  unfold encB
  have h1 := enc_top h
  by_cases c : neg = true ∧ j + 1 = nm_ a
  · rw [if_pos c]
    rw [show nm_ a - 1 = j by omega] at h1
    omega
  · rw [if_neg c]
    split <;> omega
theorem nm_0 {a : Nat} (h : nd a = 0) : nm_ a = 0 := by
  unfold nm_
  rw [if_neg (by omega), h]
theorem enc_ok {a : Nat} {neg : Bool} (h : a < 256 ^ 8) : okE (enc a neg) := by
  have h1 := nd_le 8 a h
  have h2 := nm_le (a := a)
  refine ⟨by rw [enc_len]; omega, fun k hk => ?_⟩
  rw [enc_len] at hk
  rw [enc_get hk]
  refine ⟨encB a neg k, encB_lt ?_, rfl⟩
  rcases Nat.eq_zero_or_pos (nd a) with z | z
  · rw [nm_0 z] at hk; omega
  · exact z
theorem lN_and255 (a : Nat) (h : a < 2 ^ 63) : (lN a &&& 255).toInt32 = nI (a % 256) := by
  have e : lN a &&& 255 = lN (a % 256) := by
    apply Int64.toBitVec_inj.mp
    rw [Int64.toBitVec_and]
    show BitVec.ofNat 64 a &&& BitVec.ofNat 64 255 = BitVec.ofNat 64 (a % 256)
    apply BitVec.eq_of_toNat_eq
    rw [BitVec.toNat_and, BitVec.toNat_ofNat, BitVec.toNat_ofNat, BitVec.toNat_ofNat]
    rw [Nat.mod_eq_of_lt (show a < 2 ^ 64 by omega), Nat.mod_eq_of_lt (show 255 < 2 ^ 64 by decide), Nat.mod_eq_of_lt (show a % 256 < 2 ^ 64 by omega)]
    exact Nat.and_two_pow_sub_one_eq_mod a 8
  rw [e, lN_i]
theorem pf_lI {a : Nat} (h : a < 2 ^ 63) : (lN a).toInt = (a : Int) := lg_ofNat_toInt h
theorem pf_shr {a d : Nat} {D : Int64} (hD : (D.toBitVec.smod 64).toNat = d) (h : a < 2 ^ 62) : lN a >>> D = lN (a / 2 ^ d) := by
  have hd : a / 2 ^ d ≤ a := Nat.div_le_self _ _
  apply Int64.toInt_inj.mp
  have e : (lN a >>> D).toInt = (lN a).toInt >>> d := by
    rw [← hD]
    exact BitVec.toInt_sshiftRight ..
  rw [e, Int.shiftRight_eq_div_pow, pf_lI (by omega), pf_lI (by omega)]
  rfl
theorem lN_shr8 (a : Nat) (h : a < 2 ^ 62) : sd_lsr (lN a) 8 = lN (a / 256) := by
  unfold sd_lsr
  have e : ((8 : Int32).toInt64 &&& 63) = 8 := by decide
  rw [e]
  exact pf_shr (d := 8) (by decide) h
theorem lgc_0 : lg_cmp (lN 0) 0 = 0 := by decide
theorem lgc_pos {c : Nat} (h : 0 < c) (hc : c < 2 ^ 63) : lg_cmp (lN c) 0 = 1 := by
  unfold lg_cmp
  rw [if_pos]
  show (0 : Int64) < lN c
  rw [show (0 : Int64) = lN 0 from rfl, pk_lLT (by decide) hc]
  exact h
theorem lN_negT {c : Nat} (hc : c < 2 ^ 63) : (-lN c).toInt = -(c : Int) := by
  rw [Int64.toInt_neg, pk_lT hc]
  exact Int.bmod_eq_of_le (by omega) (by omega)
theorem lgc_neg {c : Nat} (h : 0 < c) (hc : c < 2 ^ 63) : lg_cmp (-lN c) 0 = -1 := by
  have e := lN_negT hc
  unfold lg_cmp
  rw [if_neg, if_neg]
  · intro z
    rw [z] at e
    have : (0 : Int64).toInt = 0 := by decide
    omega
  · intro z
    have z2 : (0 : Int64).toInt < (-lN c).toInt := Int64.lt_iff_toInt_lt.mp z
    have : (0 : Int64).toInt = 0 := by decide
    omega
theorem or128 : ∀ b, b < 128 → nI b ||| 128 = nI (b + 128) := by decide
