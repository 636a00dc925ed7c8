theorem bv_id (x : Option sd_Me) : sd_bv x (fun m => some m) = x := by cases x <;> rfl
theorem bi_id (x : Option (Int32 × sd_Me)) : sd_bi x (fun a m => some (a, m)) = x := by
  cases x with
  | none => rfl
  | some z => rfl
/-- what an operation of the class keeps; the counters agree -/
def KX (μ μ' : sd_Me) : Prop := μ'.1 0 = μ.1 0 ∧ μ'.1 1 = μ.1 1 ∧ μ'.1 7 = μ.1 7 ∧ μ'.1 8 0 = μ.1 8 0 ∧ μ'.1 9 = μ.1 9 ∧ μ'.1 14 = μ.1 14
theorem KX.rf {μ : sd_Me} : KX μ μ := ⟨rfl, rfl, rfl, rfl, rfl, rfl⟩
theorem KX.tr {a b c : sd_Me} (h : KX a b) (g : KX b c) : KX a c := ⟨g.1.trans h.1, g.2.1.trans h.2.1, g.2.2.1.trans h.2.2.1, g.2.2.2.1.trans h.2.2.2.1, g.2.2.2.2.1.trans h.2.2.2.2.1, g.2.2.2.2.2.trans h.2.2.2.2.2⟩
theorem KX.fr {μ μ' : sd_Me} (h : Fr [2, 3, 4, 5] μ μ') : KX μ μ' := ⟨h.1 0 (by decide), h.1 1 (by decide), h.1 7 (by decide), by rw [h.1 8 (by decide)], h.1 9 (by decide), h.1 14 (by decide)⟩
def CN (μ ν : sd_Me) : Prop := μ.1 6 0 = ν.1 0 9 ∧ μ.1 8 1 = ν.1 0 10
theorem CN.keep {μ μ' ν ν' : sd_Me} (h : CN μ ν) (g : Fr [2, 3, 4, 5] μ μ') (k : KM [2, 3, 7] ν ν') : CN μ' ν' := ⟨by rw [g.1 6 (by decide), k.1 9 (by decide)]; exact h.1, by rw [g.1 8 (by decide), k.1 10 (by decide)]; exact h.2⟩
/-- one operation on both sides -/
def SimO (o : Option (Int32 × sd_Me)) (p : Option sd_Me) (μ ν : sd_Me) : Prop := ∃ (f : Int32) (μ' ν' : sd_Me), o = some (f, μ') ∧ p = some ν' ∧ ν'.1 0 7 = f ∧ (f = 0 ∨ 0 < f) ∧ KX μ μ' ∧ KM [2, 3, 7, 9, 10] ν ν' ∧ CN μ' ν' ∧ (f = 0 → ν'.1 0 9 = ν.1 0 9 ∨ ν'.1 0 9 ≤ 100) ∧ ∃ S T, AX μ' S T ∧ S.length + T.length ≤ 63 ∧ (f = 0 → AM ν' S T)
theorem sim_mk {o : Option (Int32 × sd_Me)} {p : Option sd_Me} {μ ν : sd_Me} {S T S' T' : List El} {c : Prop} (hx : AX μ S T) (hl : S.length + T.length ≤ 60) (hc : CN μ ν) (h1 : c → ∃ μ', o = some (0, μ') ∧ AX μ' S' T' ∧ Fr [2, 3, 4, 5] μ μ') (h2 : ¬ c → o = some (5, μ)) (h3 : ∃ ν', p = some ν' ∧ KM [2, 3, 7] ν ν' ∧ (c → ν'.1 0 7 = 0 ∧ AM ν' S' T') ∧ (¬ c → ν'.1 0 7 = 5)) (h4 : c → S'.length + T'.length ≤ 63) : SimO o p μ ν := by
  obtain ⟨ν', p1, p2, p3, p4⟩ := h3
  by_cases d : c
  · obtain ⟨μ', o1, o2, o3⟩ := h1 d
    exact ⟨0, μ', ν', o1, p1, (p3 d).1, Or.inl rfl, KX.fr o3, p2.mono (by decide), hc.keep o3 p2, fun _ => Or.inl (p2.1 9 (by decide)), S', T', o2, h4 d, fun _ => (p3 d).2⟩
  · exact ⟨5, μ, ν', h2 d, p1, p4 d, Or.inr (by decide), KX.rf, p2.mono (by decide), hc.keep Fr.rf p2, fun z => absurd z (by decide), S, T, hx, by omega, fun z => absurd z (by decide)⟩
/-- both sides of a plain operation, under what holds before it -/
def OpS (fx : sd_Me → Option (Int32 × sd_Me)) (c : Int32) : Prop := ∀ (μ ν : sd_Me) (S T : List El), AX μ S T → AM ν S T → S.length + T.length ≤ 60 → ν.1 0 7 = 0 → CN μ ν → SimO (fx μ) (fn_Model_operation_r0 c ν) μ ν
theorem xle {μ : sd_Me} {S T : List El} (h : AX μ S T) {n : Nat} (hn : n < 100) : nI n ≤ μ.1 2 4 ↔ n ≤ S.length := by
  obtain ⟨g1, g2, g3⟩ := h.d
  rw [g1, nI_leI (by omega) (by omega)]
theorem copies_len {k : Nat} : ∀ (m : Nat) (S : List El), (copies S k m).length = S.length + m := by
  intro m
  induction m with
  | zero => intro S; rfl
  | succ m ih => intro S; rw [copies, ih, List.length_cons]; omega
theorem lifts_len {k : Nat} : ∀ (m : Nat) (S : List El), k < S.length → (lifts S k m).length = S.length := by
  intro m
  induction m with
  | zero => intro S _; rfl
  | succ m ih => intro S h; rw [lifts, ih _ (by rw [lifted_len h]; exact h), lifted_len h]
theorem xp_110 {μ : sd_Me} : fn_Moves_perform_r2 110 μ = if (2 : Int32) ≤ μ.1 2 4 then sd_bv (sd_bv (fn_Elements_pushCopies_r2 1 2 μ) (fun m2 => some m2)) (fun m8 => some ((0 : Int32), m8)) else some (5, μ) := rfl
theorem mo_110 {ν : sd_Me} : fn_Model_operation_r0 110 ν = sd_bv (sd_bv (fn_Model_again_r0 2 1 2 ν) (fun m => some m)) (fun m19 => some m19) := rfl
