/-! numbers: bounds, and pushing any small number -/
def bnd (x : Int64) : Prop := -(2 ^ 32) < x.toInt ∧ x.toInt < 2 ^ 32
def bnd2 (x : Int64) : Prop := -(2 ^ 60) < x.toInt ∧ x.toInt < 2 ^ 60
theorem vg_nat {e : El} (h : okE e) (hl : e.length ≤ 4) : ∀ j, j ≤ e.length → ∃ a : Nat, vg e j = lN a ∧ a < 256 ^ j ∧ (1 ≤ j → a < 128 * 256 ^ (j - 1)) := by
  intro j
  induction j with
  | zero => intro _; exact ⟨0, rfl, by decide, fun z => by omega⟩
  | succ j ih =>
    intro hj
    obtain ⟨a, h1, h2, h3⟩ := ih (by omega)
    have hp : 256 ^ j ≤ 256 ^ 3 := Nat.pow_le_pow_right (by decide) (by omega)
    rw [vg, h1, show (256 : Int64) = lN 256 from rfl, lN_mul]
    by_cases c : j = 0
    · subst c
      obtain ⟨b, hb, hbe⟩ := h.2 (e.length - 1) (by omega)
      have e127 : nI b &&& 127 = nI (b % 128) := by
        have : ∀ b, b < 256 → nI b &&& 127 = nI (b % 128) := by decide +kernel
        exact this b hb
      rw [if_pos rfl, hbe, e127, nI_l (by omega), lN_add]
      refine ⟨_, rfl, by omega, fun _ => ?_⟩
      simp at h2 ⊢
      omega
    · obtain ⟨b, hb, hbe⟩ := h.2 (e.length - 1 - j) (by omega)
      rw [if_neg c, hbe, nI_l (by omega), lN_add]
      refine ⟨_, rfl, ?_, fun _ => ?_⟩
      · rw [Nat.pow_succ]; omega
      · have h4 := h3 (by omega)
        obtain ⟨i, rfl⟩ : ∃ i, j = i + 1 := ⟨j - 1, by omega⟩
        rw [Nat.add_sub_cancel] at h4 ⊢
        rw [Nat.pow_succ]
        omega
theorem vnum_bnd {e : El} (h : okE e) (hl : e.length ≤ 4) : bnd (vnum e) := by
  obtain ⟨a, h1, h2, h3⟩ := vg_nat h hl e.length (Nat.le_refl _)
  have hp : 256 ^ e.length ≤ 256 ^ 4 := Nat.pow_le_pow_right (by decide) hl
  have ha : a < 2 ^ 32 := by omega
  unfold vnum bnd
  split
  · have : (0 : Int64).toInt = 0 := by decide
    omega
  · split
    · rw [h1, pk_lT (by omega)]
      omega
    · rw [h1, lN_negT (by omega)]
      omega
theorem sgn_of {v : Int64} (h : bnd2 v) : ∃ (a : Nat) (neg : Bool), v = sgn a neg ∧ a < 2 ^ 62 ∧ (neg = true → 0 < a) := by
  obtain ⟨h1, h2⟩ := h
  by_cases c : v.toInt < 0
  · refine ⟨v.toInt.natAbs, true, ?_, by omega, fun _ => by omega⟩
    show v = -lN v.toInt.natAbs
    apply Int64.toInt_inj.mp
    rw [lN_negT (by omega)]
    omega
  · refine ⟨v.toInt.natAbs, false, ?_, by omega, fun z => by cases z⟩
    show v = lN v.toInt.natAbs
    apply Int64.toInt_inj.mp
    rw [pk_lT (by omega)]
    omega
theorem sim_push {μ ν : sd_Me} {S T : List El} (hx : AX μ S T) (hm : AM ν S T) (hl : S.length + T.length < 62) {v : Int64} (hb : bnd2 v) : ∃ (e : El) (μ' ν' : sd_Me), fn_Elements_pushNumber_r2 v μ = some μ' ∧ fn_Model_pushNumber_r0 v ν = some ν' ∧ AX μ' (e :: S) T ∧ AM ν' (e :: S) T ∧ Fr [2, 3, 4] μ μ' ∧ KM [2] ν ν' := by
  obtain ⟨a, neg, rfl, h1, h2⟩ := sgn_of hb
  obtain ⟨μ', f1, f2, f3⟩ := X_pushNum hx (by omega) h1 h2
  obtain ⟨ν', g1, g2, g3, g4⟩ := M_pushNum hm (by omega) h1 h2
  exact ⟨_, μ', ν', f1, g1, f2, g2, f3, g3⟩
theorem X_fN {μ : sd_Me} {S T : List El} (h : AX μ S T) {k : Nat} (hk : k < 2 ^ 20) : fn_Elements_faultOfNumber_r2 (nI k) μ = some (rf S k, μ) := by
  rw [X_faultN h hk]
  rfl
theorem N_step {μ : sd_Me} {S T : List El} (h : AX μ S T) {kk : Int32 → Int32 → sd_Me → Option (Int32 × sd_Me)} {c : Int32} {n i f : Nat} (hi : i < n) (hn : n < 100) : fn_Numbers_perform_r2_L13 kk (f + 1) c (nI n) (nI i) μ = if rf S i = 0 then fn_Numbers_perform_r2_L13 kk f c (nI n) (nI (i + 1)) μ else some (rf S i, μ) := by
  rw [fn_Numbers_perform_r2_L13, if_neg (fun z => by have := (nI_leI (by omega) (by omega)).mp z; omega), X_fN h (by omega), pa_bi, pl1, nI_add]
theorem N_end {μ : sd_Me} {kk : Int32 → Int32 → sd_Me → Option (Int32 × sd_Me)} {c : Int32} {n f : Nat} (hn : n < 100) : fn_Numbers_perform_r2_L13 kk (f + 1) c (nI n) (nI n) μ = kk c (nI n) μ := by
  rw [fn_Numbers_perform_r2_L13, if_pos ((nI_leI (by omega) (by omega)).mpr (Nat.le_refl _))]
theorem rf_0 {S : List El} {k : Nat} (h : rf S k = 0) : k < S.length ∧ (S.getD k []).length ≤ 4 := by
  unfold rf at h
  by_cases c : k < S.length
  · rw [if_pos c] at h
    by_cases d : (S.getD k []).length ≤ 4
    · exact ⟨c, d⟩
    · rw [if_neg d] at h; exact absurd h (by decide)
  · rw [if_neg c] at h; exact absurd h (by decide)
theorem rf_pos {S : List El} {k : Nat} (h : ¬ rf S k = 0) : 0 < rf S k := by
  unfold rf at h ⊢
  split
  · split
    · rename_i a b
      rw [if_pos a, if_pos b] at h
      exact absurd rfl h
    · decide
  · decide
/-- the class's tail: the result in the place of the operands -/
def nTail (c n : Int32) (v : Int64) (m : sd_Me) : Option (Int32 × sd_Me) := sd_bv (fn_Elements_drop_r2 n m) (fun m10 => sd_bv (fn_Elements_pushNumber_r2 v m10) (fun m11 => if c = (157 : Int32) then sd_bi (fn_Elements_takeTrue_r2 m11) (fun x13 m12 => some (x13, m12)) else some ((0 : Int32), m11)))
theorem sim_res {μ ν : sd_Me} {S T : List El} (hx : AX μ S T) (hm : AM ν S T) {n : Nat} (hn : n ≤ S.length) (h1n : 1 ≤ n) (hl : S.length + T.length ≤ 60) (h7 : ν.1 0 7 = 0) (hc : CN μ ν) {v : Int64} (hb : bnd2 v) {c : Int32} (h157 : c ≠ 157) : SimO (nTail c (nI n) v μ) (fn_Model_pushNumber_r0 v (sd_st ν 0 2 (nI (S.length - n)))) μ ν := by
  obtain ⟨e, μ', ν', f1, f2, f3, f4, f5, f6⟩ := sim_push (AX_drop hx hn) (AM_drop hm hn) (by rw [List.length_drop]; omega) hb
  refine sim_k hc (by unfold nTail; rw [X_drop hx hn, pa_bv, f1, pa_bv, if_neg h157]) f3 ((Fr.st (by decide)).tr (f5.mono (by decide))) f2 ((KM.st0 (by decide)).tr (f6.mono (by decide))) (by rw [f6.1 7 (by decide), pa_sn _ _ _ _ _ (by decide)]; exact h7) f4 (by rw [List.length_cons, List.length_drop]; omega)
/-- a read on the reference's side, made plain -/
theorem M_rd {ν : sd_Me} {S T : List El} (h : AM ν S T) (h7 : ν.1 0 7 = 0) {k : Nat} (hk : k < 2 ^ 16) : (rf S k = 0 → ∃ ν', fn_Model_reads_r0 (nI k) ν = some (1, ν') ∧ ν'.1 0 7 = 0 ∧ KM [7] ν ν' ∧ ν'.2 1 = vnum (S.getD k []) ∧ AM ν' S T) ∧ (¬ rf S k = 0 → ∃ ν', fn_Model_reads_r0 (nI k) ν = some (0, ν') ∧ ν'.1 0 7 = rf S k ∧ KM [7] ν ν') := by
  obtain ⟨ν', h1, h2, h3, h4⟩ := M_reads h h7 hk
  refine ⟨fun z => ⟨ν', ?_, by rw [h2]; exact z, h3, (h4 z).2.1, (h4 z).2.2⟩, fun z => ⟨ν', ?_, h2, h3⟩⟩
  · rw [h1]; simp [bI, z]
  · rw [h1]; simp [bI, z]
theorem bi_ext {β : Type} {o : Option (Int32 × sd_Me)} {k k' : Int32 → sd_Me → Option β} (h : ∀ x m, k x m = k' x m) : sd_bi o k = sd_bi o k' := by
  have e : k = k' := funext fun x => funext fun m => h x m
  rw [e]
def nK : Int32 → Int32 → sd_Me → Option (Int32 × sd_Me) := fun x5 x6 m7 => sd_bl (fn_Numbers_resultOf_r2 x5 x6 m7) (fun x9 m8 => nTail x5 x6 x9 m8)
theorem N_perf {c : Int32} {μ : sd_Me} : fn_Numbers_perform_r2 c μ = sd_bi (fn_Numbers_operandsOf c μ) (fun x2 m1 => if x2 = (0 : Int32) then some ((4 : Int32), m1) else fn_Numbers_perform_r2_L13 nK 10000 c x2 0 m1) := rfl
theorem num1 {c : Int32} {g : Int64 → Int64} (h1 : ∀ μ, fn_Numbers_operandsOf c μ = some (1, μ)) (h2 : ∀ x μ, fn_Numbers_ofOne c x μ = some (g x, μ)) (h3 : c ≠ 157) (hb : ∀ x, bnd x → bnd2 (g x)) (h4 : ∀ ν, fn_Model_operation_r0 c ν = sd_bi (fn_Model_reads_r0 0 ν) (fun x2 m1 => if x2 = (0 : Int32) then some m1 else fn_Model_pushNumber_r0 (g (m1.2 1)) (sd_st m1 0 2 ((m1.1 0 2) - (1 : Int32))))) : OpS (fn_Numbers_perform_r2 c) c := by
  intro μ ν S T hx hm hl h7 hc
  have s0 := N_step hx (kk := nK) (c := c) (n := 1) (i := 0) (f := 9999) (by decide) (by decide)
  have s1 := N_end (kk := nK) (c := c) (n := 1) (f := 9998) (μ := μ) (by decide)
  rw [N_perf, h1, pa_bi, if_neg (by decide), show fn_Numbers_perform_r2_L13 nK 10000 c 1 0 μ = _ from s0, h4]
  obtain ⟨m1, m2⟩ := M_rd hm h7 (k := 0) (by decide)
  by_cases z : rf S 0 = 0
  · obtain ⟨k1, k2⟩ := rf_0 z
    obtain ⟨ν', q1, q2, q3, q4, q5⟩ := m1 z
    have q1 : fn_Model_reads_r0 0 ν = some (1, ν') := q1
    have e0 : fn_Elements_numberAt_r2 0 μ = some (vnum (S.getD 0 []), μ) := X_num hx k1 k2
    have er : fn_Numbers_resultOf_r2 c (nI 1) μ = some (g (vnum (S.getD 0 [])), μ) := by
      unfold fn_Numbers_resultOf_r2
      rw [e0, pa_bl, if_pos (by decide), h2, pa_bl]
    rw [if_pos z, show fn_Numbers_perform_r2_L13 nK 9999 c (nI 1) (nI (0 + 1)) μ = _ from s1, nK, er, pa_bl, q1, pa_bi, if_neg (by decide), q4, q5.1, pl1, pk_sub k1]
    have := sim_res hx q5 (n := 1) k1 (by decide) hl q2 (c := c) (hc.keep Fr.rf (q3.mono (by decide))) (hb _ (vnum_bnd (hx.ok k1) k2)) h3
    exact this.then KX.rf (q3.mono (by decide))
  · obtain ⟨ν', q1, q2, q3⟩ := m2 z
    have q1 : fn_Model_reads_r0 0 ν = some (0, ν') := q1
    rw [if_neg z, q1, pa_bi, if_pos (by decide)]
    exact sim_f (rf_pos z) hc rfl hx Fr.rf rfl (q3.mono (by decide)) q2 (by omega)
theorem I64_add {x y : Int64} (h1 : bnd x) (h2 : bnd y) : (x + y).toInt = x.toInt + y.toInt := by
  unfold bnd at h1 h2
  rw [Int64.toInt_add]
  exact Int.bmod_eq_of_le (by omega) (by omega)
theorem I64_sub {x y : Int64} (h1 : bnd x) (h2 : bnd y) : (x - y).toInt = x.toInt - y.toInt := by
  unfold bnd at h1 h2
  rw [Int64.toInt_sub]
  exact Int.bmod_eq_of_le (by omega) (by omega)
theorem I64_neg {x : Int64} (h1 : bnd x) : (-x).toInt = -x.toInt := by
  unfold bnd at h1
  rw [Int64.toInt_neg]
  exact Int.bmod_eq_of_le (by omega) (by omega)
theorem bnd_1 : bnd 1 := by unfold bnd; decide
theorem bnd_0 : bnd 0 := by unfold bnd; decide
theorem bnd2_of {x : Int64} (h : bnd x) : bnd2 x := by
  unfold bnd at h
  unfold bnd2
  omega
theorem bnd2_add {x y : Int64} (h1 : bnd x) (h2 : bnd y) : bnd2 (x + y) := by
  have e := I64_add h1 h2
  unfold bnd at h1 h2
  unfold bnd2
  omega
theorem bnd2_sub {x y : Int64} (h1 : bnd x) (h2 : bnd y) : bnd2 (x - y) := by
  have e := I64_sub h1 h2
  unfold bnd at h1 h2
  unfold bnd2
  omega
theorem bnd2_neg {x : Int64} (h1 : bnd x) : bnd2 (-x) := by
  have e := I64_neg h1
  unfold bnd at h1
  unfold bnd2
  omega
theorem op_139 : OpS (fn_Numbers_perform_r2 139) 139 := num1 (g := fun x => x + 1) (fun _ => rfl) (fun _ _ => rfl) (by decide) (fun x h => bnd2_add h bnd_1) (fun ν => by
  show sd_bv (fn_Model_numberOfOne_r0 139 ν) (fun m => some m) = _
  rw [bv_id]
  unfold fn_Model_numberOfOne_r0
  refine bi_ext fun x2 m1 => ?_
  by_cases c : x2 = 0
  · rw [if_pos c, if_pos c]
  · rw [if_neg c, if_neg c]
    exact bv_id _)
theorem op_140 : OpS (fn_Numbers_perform_r2 140) 140 := num1 (g := fun x => x - 1) (fun _ => rfl) (fun _ _ => rfl) (by decide) (fun x h => bnd2_sub h bnd_1) (fun ν => by
  show sd_bv (fn_Model_numberOfOne_r0 140 ν) (fun m => some m) = _
  rw [bv_id]
  unfold fn_Model_numberOfOne_r0
  refine bi_ext fun x2 m1 => ?_
  by_cases c : x2 = 0
  · rw [if_pos c, if_pos c]
  · rw [if_neg c, if_neg c]
    exact bv_id _)
theorem op_143 : OpS (fn_Numbers_perform_r2 143) 143 := num1 (g := fun x => -x) (fun _ => rfl) (fun _ _ => rfl) (by decide) (fun x h => bnd2_neg h) (fun ν => by
  show sd_bv (fn_Model_numberOfOne_r0 143 ν) (fun m => some m) = _
  rw [bv_id]
  unfold fn_Model_numberOfOne_r0
  refine bi_ext fun x2 m1 => ?_
  by_cases c : x2 = 0
  · rw [if_pos c, if_pos c]
  · rw [if_neg c, if_neg c]
    exact bv_id _)
theorem op_144 : OpS (fn_Numbers_perform_r2 144) 144 := num1 (g := fun x => if (0 : Int32) ≤ lg_cmp x 0 then x else -x) (fun _ => rfl) (fun x _ => by
  show (if (0 : Int32) ≤ lg_cmp x 0 then some (x, _) else some (-x, _)) = _
  split <;> rfl) (by decide) (fun x h => by
  split
  · exact bnd2_of h
  · exact bnd2_neg h) (fun ν => by
  show sd_bv (fn_Model_numberOfOne_r0 144 ν) (fun m => some m) = _
  rw [bv_id]
  unfold fn_Model_numberOfOne_r0
  refine bi_ext fun x2 m1 => ?_
  by_cases c : x2 = 0
  · rw [if_pos c, if_pos c]
  · rw [if_neg c, if_neg c]
    show (if (0 : Int32) ≤ lg_cmp (m1.2 1) 0 then sd_bv (fn_Model_pushNumber_r0 (m1.2 1) (sd_st m1 0 2 (m1.1 0 2 - 1))) (fun m => some m) else sd_bv (fn_Model_pushNumber_r0 (-(m1.2 1)) (sd_st m1 0 2 (m1.1 0 2 - 1))) (fun m => some m)) = _
    rw [bv_id, bv_id]
    split <;> rfl)
theorem op_145 : OpS (fn_Numbers_perform_r2 145) 145 := num1 (g := fun x => if lg_cmp x 0 = 0 then 1 else 0) (fun _ => rfl) (fun x _ => by
  show (if lg_cmp x 0 = 0 then some ((1 : Int64), _) else some ((0 : Int64), _)) = _
  split <;> rfl) (by decide) (fun x h => by
  split
  · exact bnd2_of bnd_1
  · exact bnd2_of bnd_0) (fun ν => by
  show sd_bv (fn_Model_numberOfOne_r0 145 ν) (fun m => some m) = _
  rw [bv_id]
  unfold fn_Model_numberOfOne_r0
  refine bi_ext fun x2 m1 => ?_
  by_cases c : x2 = 0
  · rw [if_pos c, if_pos c]
  · rw [if_neg c, if_neg c]
    show (if lg_cmp (m1.2 1) 0 = 0 then sd_bv (fn_Model_pushNumber_r0 1 (sd_st m1 0 2 (m1.1 0 2 - 1))) (fun m => some m) else sd_bv (fn_Model_pushNumber_r0 0 (sd_st m1 0 2 (m1.1 0 2 - 1))) (fun m => some m)) = _
    rw [bv_id, bv_id]
    split <;> rfl)
theorem op_146 : OpS (fn_Numbers_perform_r2 146) 146 := num1 (g := fun x => if lg_cmp x 0 = 0 then 0 else 1) (fun _ => rfl) (fun x _ => by
  show (if lg_cmp x 0 = 0 then some ((0 : Int64), _) else some ((1 : Int64), _)) = _
  split <;> rfl) (by decide) (fun x h => by
  split
  · exact bnd2_of bnd_0
  · exact bnd2_of bnd_1) (fun ν => by
  show sd_bv (fn_Model_numberOfOne_r0 146 ν) (fun m => some m) = _
  rw [bv_id]
  unfold fn_Model_numberOfOne_r0
  refine bi_ext fun x2 m1 => ?_
  by_cases c : x2 = 0
  · rw [if_pos c, if_pos c]
  · rw [if_neg c, if_neg c]
    show (if lg_cmp (m1.2 1) 0 = 0 then sd_bv (fn_Model_pushNumber_r0 0 (sd_st m1 0 2 (m1.1 0 2 - 1))) (fun m => some m) else sd_bv (fn_Model_pushNumber_r0 1 (sd_st m1 0 2 (m1.1 0 2 - 1))) (fun m => some m)) = _
    rw [bv_id, bv_id]
    split <;> rfl)
