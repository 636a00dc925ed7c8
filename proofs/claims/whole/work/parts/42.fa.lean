/-! all operations, by their code -/
theorem op_plain {k : Nat} (h1 : 97 ≤ k) (h2 : k ≤ 108) (n99 : k ≠ 99) (n100 : k ≠ 100) (n103 : k ≠ 103) (n104 : k ≠ 104) : OpX (fn_Desk_performPlain_r0 (nI k)) (nI k) := by
  rcases (show k = 97 ∨ k = 98 ∨ k = 101 ∨ k = 102 ∨ k = 105 ∨ k = 106 ∨ k = 107 ∨ k = 108 by omega) with rfl | rfl | rfl | rfl | rfl | rfl | rfl | rfl
  · exact op_97.x
  · exact op_98.x
  · exact op_101.x
  · exact op_102.x
  · exact op_105.x
  · exact op_106.x
  · exact op_107.x
  · exact op_108.x
theorem op_moves {k : Nat} (h1 : 109 ≤ k) (h2 : k ≤ 136) : OpX (fn_Moves_perform_r2 (nI k)) (nI k) := by
  rcases (show k = 109 ∨ k = 110 ∨ k = 111 ∨ k = 112 ∨ k = 113 ∨ k = 114 ∨ k = 115 ∨ k = 116 ∨ k = 117 ∨ k = 118 ∨ k = 119 ∨ k = 120 ∨ k = 121 ∨ k = 122 ∨ k = 123 ∨ k = 124 ∨ k = 125 ∨ k = 126 ∨ k = 127 ∨ k = 128 ∨ k = 129 ∨ k = 130 ∨ k = 131 ∨ k = 132 ∨ k = 133 ∨ k = 134 ∨ k = 135 ∨ k = 136 by omega) with rfl | rfl | rfl | rfl | rfl | rfl | rfl | rfl | rfl | rfl | rfl | rfl | rfl | rfl | rfl | rfl | rfl | rfl | rfl | rfl | rfl | rfl | rfl | rfl | rfl | rfl | rfl | rfl
  · exact op_109.x
  · exact op_110.x
  · exact op_111.x
  · exact op_112.x
  · exact op_113.x
  · exact op_114.x
  · exact op_115.x
  · exact op_116.x
  · exact op_117.x
  · exact op_118.x
  · exact op_119.x
  · exact op_120.x
  · exact op_121.x
  · exact op_122.x
  · exact op_123.x
  · exact op_124.x
  · exact op_125.x
  · exact op_126.x
  · exact op_127.x
  · exact op_128.x
  · exact op_129.x
  · exact op_130.x
  · exact op_131.x
  · exact op_132.x
  · exact op_133.x
  · exact op_134.x
  · exact op_135.x
  · exact op_136.x
theorem op_numbers {k : Nat} (h1 : 137 ≤ k) (h2 : k ≤ 165) : OpX (fn_Numbers_perform_r2 (nI k)) (nI k) := by
  rcases (show k = 137 ∨ k = 138 ∨ k = 139 ∨ k = 140 ∨ k = 141 ∨ k = 142 ∨ k = 143 ∨ k = 144 ∨ k = 145 ∨ k = 146 ∨ k = 147 ∨ k = 148 ∨ k = 149 ∨ k = 150 ∨ k = 151 ∨ k = 152 ∨ k = 153 ∨ k = 154 ∨ k = 155 ∨ k = 156 ∨ k = 157 ∨ k = 158 ∨ k = 159 ∨ k = 160 ∨ k = 161 ∨ k = 162 ∨ k = 163 ∨ k = 164 ∨ k = 165 by omega) with rfl | rfl | rfl | rfl | rfl | rfl | rfl | rfl | rfl | rfl | rfl | rfl | rfl | rfl | rfl | rfl | rfl | rfl | rfl | rfl | rfl | rfl | rfl | rfl | rfl | rfl | rfl | rfl | rfl
  · exact op_137.x
  · exact op_138.x
  · exact op_139.x
  · exact op_140.x
  · exact op_141.x
  · exact op_142.x
  · exact op_143.x
  · exact op_144.x
  · exact op_145.x
  · exact op_146.x
  · exact op_147.x
  · exact op_148.x
  · exact op_149.x
  · exact op_150.x
  · exact op_151.x
  · exact op_152.x
  · exact op_153.x
  · exact op_154.x
  · exact op_155.x
  · exact op_156.x
  · exact op_157.x
  · exact op_158.x
  · exact op_159.x
  · exact op_160.x
  · exact op_161.x
  · exact op_162.x
  · exact op_163.x
  · exact op_164.x
  · exact op_165.x
theorem op_digest {k : Nat} (h1 : 166 ≤ k) (h2 : k ≤ 170) : OpX (fn_Desk_performDigest_r0 (nI k)) (nI k) := by
  rcases (show k = 166 ∨ k = 167 ∨ k = 168 ∨ k = 169 ∨ k = 170 by omega) with rfl | rfl | rfl | rfl | rfl
  · exact op_166
  · exact op_167
  · exact op_168
  · exact op_169
  · exact op_170
theorem op_171 : OpX (fn_Signatures_perform_r8_r2_r6 171) 171 := (op_no (fun _ => rfl) (fun _ => rfl)).x
theorem op_high {k : Nat} (h1 : 176 ≤ k) (h2 : k < 256) : OpX (fn_Signatures_perform_r8_r2_r6 (nI k)) (nI k) := by
  have lt : ∀ n : Nat, n < 176 → ¬ nI k = nI n := fun n hn z => by have := (nI_eq (by omega) (by omega)).mp z; omega
  refine (op_no (fun μ => ?_) (fun ν => ?_)).x
  · unfold fn_Signatures_perform_r8_r2_r6
    rw [if_neg (show ¬ nI k < 172 from nI_nlt (b := 172) (by omega) (by omega)), if_neg (show ¬ nI k ≤ 175 from nI_ge' (a := 175) (by omega) (by omega))]
  · unfold fn_Model_operation_r0
    rw [if_neg (show ¬ nI k < 107 from nI_nlt (b := 107) (by omega) (by omega)), if_neg (show ¬ nI k ≤ 125 from nI_ge' (a := 125) (by omega) (by omega)), fn_Model_operation_r0_J12, if_neg (show ¬ nI k = 130 from lt 130 (by decide)), if_neg (show ¬ nI k = 135 from lt 135 (by decide)), if_neg (show ¬ nI k = 136 from lt 136 (by decide)), if_neg (show ¬ nI k = 139 from lt 139 (by decide)), if_neg (show ¬ nI k = 140 from lt 140 (by decide)), if_neg (show ¬ nI k < 143 from nI_nlt (b := 143) (by omega) (by omega)), if_pos (show (146 : Int32) < nI k from nI_lt (a := 146) (by omega) (by omega)), fn_Model_operation_r0_J96, if_neg (show ¬ nI k = 147 from lt 147 (by decide)), if_neg (show ¬ nI k = 148 from lt 148 (by decide)), if_neg (show ¬ nI k < 154 from nI_nlt (b := 154) (by omega) (by omega)), if_pos (show (165 : Int32) < nI k from nI_lt (a := 165) (by omega) (by omega)), fn_Model_operation_r0_J132, if_neg (show ¬ nI k = 166 from lt 166 (by decide)), if_neg (show ¬ nI k < 168 from nI_nlt (b := 168) (by omega) (by omega)), if_pos (show (170 : Int32) < nI k from nI_lt (a := 170) (by omega) (by omega)), fn_Model_operation_r0_J161, if_neg (show ¬ nI k = 172 from lt 172 (by decide)), if_neg (show ¬ nI k = 173 from lt 173 (by decide)), if_neg (show ¬ nI k = 174 from lt 174 (by decide)), if_neg (show ¬ nI k = 175 from lt 175 (by decide)), if_neg (show ¬ nI k = 105 from lt 105 (by decide)), if_neg (show ¬ nI k = 106 from lt 106 (by decide)), if_neg (show ¬ nI k = 97 from lt 97 (by decide))]
theorem op_sig {k : Nat} (h1 : 171 ≤ k) (h2 : k < 256) : OpX (fn_Signatures_perform_r8_r2_r6 (nI k)) (nI k) := by
  rcases (show k = 171 ∨ k = 172 ∨ k = 173 ∨ k = 174 ∨ k = 175 ∨ 176 ≤ k by omega) with rfl | rfl | rfl | rfl | rfl | h
  · exact op_171
  · exact op_172
  · exact op_173
  · exact op_174
  · exact op_175
  · exact op_high h h2
/-! flow -/
def pt (f k : Nat) : Int32 := if f = 0 ∨ k + 1 < f then 1 else if k + 1 = f then 2 else 3
def FLd (d f : Nat) (μ ν : sd_Me) : Prop := μ.1 7 0 = nI d ∧ μ.1 7 1 = nI f ∧ ν.1 0 11 = nI d ∧ f ≤ d ∧ ∀ k, k < d → ν.1 4 k = pt f k
def FL (b : Nat) (μ ν : sd_Me) : Prop := ∃ d f : Nat, d ≤ b ∧ FLd d f μ ν
theorem FLd.eq {d f : Nat} {μ ν μ' ν' : sd_Me} (h : FLd d f μ ν) (h7 : μ'.1 7 = μ.1 7) (h11 : ν'.1 0 11 = ν.1 0 11) (h4 : ν'.1 4 = ν.1 4) : FLd d f μ' ν' := ⟨by rw [h7]; exact h.1, by rw [h7]; exact h.2.1, by rw [h11]; exact h.2.2.1, h.2.2.2.1, fun k hk => by rw [h4]; exact h.2.2.2.2 k hk⟩
theorem FLd.done {d f : Nat} {μ ν : sd_Me} (h : FLd d f μ ν) (hd : d ≤ 200) : fn_Flow_isDone_r7 μ = some (bI (decide (f = 0)), μ) ∧ fn_Model_isDone_r0 ν = some (bI (decide (f = 0)), ν) := by
  obtain ⟨h1, h2, h3, h4, h5⟩ := h
  constructor
  · unfold fn_Flow_isDone_r7
    rw [h2]
    by_cases c : f = 0
    · rw [decide_eq_true c, c, if_pos (by decide)]; rfl
    · rw [decide_eq_false c, if_neg (nI_ne0 (by omega) (by omega))]; rfl
  · unfold fn_Model_isDone_r0
    rw [h3]
    by_cases c : d = 0
    · rw [if_pos (by rw [c]; rfl), decide_eq_true (show f = 0 by omega)]; rfl
    · rw [if_neg (nI_ne0 (by omega) (by omega)), pl1, pk_sub (by omega), pa_ix (by omega) (by decide), pa_gd, nI_clamp (by omega), h5 (d - 1) (by omega)]
      unfold pt
      by_cases e : f = 0
      · rw [if_pos (Or.inl e), decide_eq_true e, if_pos (by decide)]; rfl
      · rw [if_neg (show ¬ (f = 0 ∨ d - 1 + 1 < f) by omega), decide_eq_false e]
        by_cases g : d - 1 + 1 = f
        · rw [if_pos g, if_neg (by decide)]; rfl
        · rw [if_neg g, if_neg (by decide)]; rfl
def KS (μ μ' : sd_Me) : Prop := μ'.1 0 = μ.1 0 ∧ μ'.1 1 = μ.1 1 ∧ μ'.1 8 0 = μ.1 8 0 ∧ μ'.1 9 = μ.1 9 ∧ μ'.1 14 = μ.1 14
theorem KS.fr {L : List Nat} {μ μ' : sd_Me} (h : Fr L μ μ') (h0 : 0 ∉ L) (h1 : 1 ∉ L) (h8 : 8 ∉ L) (h9 : 9 ∉ L) (h14 : 14 ∉ L) : KS μ μ' := ⟨h.1 0 h0, h.1 1 h1, by rw [h.1 8 h8], h.1 9 h9, h.1 14 h14⟩
def KN (ν ν' : sd_Me) : Prop := ν'.1 3 = ν.1 3 ∧ ν'.1 0 5 = ν.1 0 5 ∧ ν'.2 0 = ν.2 0
theorem KN.rf {ν : sd_Me} : KN ν ν := ⟨rfl, rfl, rfl⟩
theorem KN.tr {a b c : sd_Me} (h : KN a b) (g : KN b c) : KN a c := ⟨g.1.trans h.1, g.2.1.trans h.2.1, g.2.2.trans h.2.2⟩
theorem KN.st0 {ν : sd_Me} {j : Nat} {v : Int32} (h : 5 ≠ j) : KN ν (sd_st ν 0 j v) := ⟨pa_sc _ _ _ _ _ (by decide), pa_sn _ _ _ _ _ h, rfl⟩
theorem KN.st4 {ν : sd_Me} {j : Nat} {v : Int32} : KN ν (sd_st ν 4 j v) := ⟨pa_sc _ _ _ _ _ (by decide), by rw [pa_sc _ _ _ _ _ (by decide)], rfl⟩
theorem KN.km {P : List Nat} {ν ν' : sd_Me} (h : KM P ν ν') (h5 : 5 ∉ P) : KN ν ν' := ⟨h.2.1, h.1 5 h5, h.2.2.2⟩
def OpR (b : Nat) (o : Option (Int32 × sd_Me)) (q : Option sd_Me) (μ ν : sd_Me) : Prop := ∃ (f : Int32) (μ' ν' : sd_Me), o = some (f, μ') ∧ q = some ν' ∧ ν'.1 0 7 = f ∧ (f = 0 ∨ 0 < f) ∧ KS μ μ' ∧ KN ν ν' ∧ CN μ' ν' ∧ ∃ S T, AX μ' S T ∧ S.length + T.length ≤ 63 ∧ (f = 0 → AM ν' S T ∧ FL b μ' ν' ∧ ν'.1 0 9 ≤ 100)
theorem SimO.r {o : Option (Int32 × sd_Me)} {p : Option sd_Me} {μ ν : sd_Me} (h : SimO o p μ ν) {b : Nat} (hf : FL b μ ν) (h9 : ν.1 0 9 ≤ 100) : OpR b o p μ ν := by
  obtain ⟨f, a, c, h1, h2, h3, h4, h5, h6, h7, h8, S, T, h10, h11, h12⟩ := h
  obtain ⟨d, g, hd, hfl⟩ := hf
  exact ⟨f, a, c, h1, h2, h3, h4, ⟨h5.1, h5.2.1, h5.2.2.2.1, h5.2.2.2.2.1, h5.2.2.2.2.2⟩, KN.km h6 (by decide), h7, S, T, h10, h11, fun z => ⟨h12 z, ⟨d, g, hd, hfl.eq h5.2.2.1 (h6.1 11 (by decide)) h6.2.2.1⟩, (h8 z).elim (fun q => by rw [q]; exact h9) id⟩⟩
/-- a part begins -/
theorem flow_in {w c : Int32} (hwc : (w = 1 ∧ c = 99) ∨ (w = 0 ∧ c = 100)) {μ ν : sd_Me} {S T : List El} {b : Nat} (hb : b ≤ 199) (hx : AX μ S T) (hm : AM ν S T) (hl : S.length + T.length ≤ 60) (h7 : ν.1 0 7 = 0) (hc : CN μ ν) (hf : FL b μ ν) (h9 : ν.1 0 9 ≤ 100) : OpR (b + 1) (fn_Desk_enterPart_r0 w μ) (fn_Model_flow_r0_J12 c ν) μ ν := by
  obtain ⟨d, f, hd, hfl⟩ := hf
  obtain ⟨e1, e2⟩ := hfl.done (by omega)
  obtain ⟨f1, f2, f3, f4, f5⟩ := id hfl
  unfold fn_Desk_enterPart_r0 fn_Model_flow_r0_J12
  rw [e1, e2, pa_bi, pa_bi]
  by_cases z : f = 0
  · rw [decide_eq_true z, if_neg (show ¬ bI true = 0 by decide), if_neg (show ¬ bI true = 0 by decide)]
    have hle : ((1 : Int32) ≤ μ.1 2 4) ↔ 1 ≤ S.length := xle hx (n := 1) (by decide)
    cases S with
    | nil =>
      have g1 : fn_Model_has_r0 1 ν = some (0, sd_st ν 0 7 5) := M_hasF hm h7 (by decide) (by decide)
      rw [if_neg (fun y => absurd (hle.mp y) (by decide)), g1, pa_bi, if_pos (by decide), pa_let]
      exact ⟨5, μ, _, rfl, rfl, by rw [pa_sn _ _ _ _ _ (by decide), pa_ss], Or.inr (by decide), ⟨rfl, rfl, rfl, rfl, rfl⟩, (KN.st0 (by decide)).tr (KN.st0 (by decide)), ⟨by rw [pa_sn _ _ _ _ _ (by decide), pa_sn _ _ _ _ _ (by decide)]; exact hc.1, by rw [pa_sn _ _ _ _ _ (by decide), pa_sn _ _ _ _ _ (by decide)]; exact hc.2⟩, [], T, hx, by omega, fun y => absurd y (by decide)⟩
    | cons e S =>
      have hS : 1 ≤ (e :: S).length := by rw [List.length_cons]; omega
      rw [List.length_cons] at hl
      have g1 : fn_Model_has_r0 1 ν = some (1, ν) := M_hasT hm h7 hS
      have g2 : fn_Elements_drop_r2 1 μ = some (sd_st μ 2 4 (nI S.length)) := X_drop hx (n := 1) hS
      have g3 : AX (sd_st μ 2 4 (nI S.length)) S T := AX_drop hx (n := 1) hS
      have g4 : AM (sd_st ν 0 2 (nI S.length)) S T := AM_drop hm (n := 1) hS
      have hok := hm.ok (k := 0) hS
      have hR : Row ν S.length e := hm.2.2.2.1 0 hS
      have hR1 : Row (sd_st ν 0 2 (nI S.length)) S.length e := hR.rs hok.1 RS.st0
      have g5 := M_true hR1 (by omega) hok.1
      have ht : topB (e :: S) = trB e := by simp [topB]
      have p2 : ν.1 0 2 - 1 = nI S.length := by
        rw [hm.1, List.length_cons]
        exact (pk_sub (b := 1) (by omega)).trans (congrArg nI (by omega))
      have b11 : (sd_st ν 0 2 (nI S.length)).1 0 11 = nI d := by rw [pa_sn _ _ _ _ _ (by decide)]; exact f3
      have m7 : (sd_st μ 2 4 (nI S.length)).1 7 = μ.1 7 := pa_sc _ _ _ _ _ (by decide)
      rw [if_pos (hle.mpr hS), X_top hx, pa_bi, g2, pa_bv, g1, pa_bi, if_neg (show ¬ (1 : Int32) = 0 by decide), pa_let, p2, pa_ss, g5, pa_bi, b11, ht]
      have kx : KS μ (sd_st μ 2 4 (nI S.length)) := KS.fr (L := [2]) (Fr.st (by decide)) (by decide) (by decide) (by decide) (by decide) (by decide)
      have hcn : CN (sd_st μ 2 4 (nI S.length)) (sd_st ν 0 2 (nI S.length)) := hc.keep (Fr.st (by decide)) (KM.st0 (by decide))
      have h72 : (sd_st ν 0 2 (nI S.length)).1 0 7 = 0 := by rw [pa_sn _ _ _ _ _ (by decide)]; exact h7
      have h92 : (sd_st ν 0 2 (nI S.length)).1 0 9 ≤ 100 := by rw [pa_sn _ _ _ _ _ (by decide)]; exact h9
      have h42 : ∀ k, k < d → (sd_st ν 0 2 (nI S.length)).1 4 k = 1 := fun k hk => by
        rw [pa_sc _ _ _ _ _ (by decide), f5 k hk, z]
        rfl
      have kn2 : KN ν (sd_st ν 0 2 (nI S.length)) := KN.st0 (by decide)
      have a70 : (sd_st μ 2 4 (nI S.length)).1 7 0 = nI d := by rw [m7]; exact f1
      have a71 : (sd_st μ 2 4 (nI S.length)).1 7 1 = nI 0 := by rw [m7, f2, z]
      generalize sd_st μ 2 4 (nI S.length) = μ1 at g3 kx hcn a70 a71 ⊢
      generalize sd_st ν 0 2 (nI S.length) = ν1 at g4 hcn h72 h92 h42 kn2 b11 ⊢
      -- the part's truth
      have key : ∀ t : Bool, OpR (b + 1) (if t = true then sd_bv (fn_Flow_enter_r7 (1 : Int32) μ1) (fun m7 => some ((0 : Int32), m7)) else sd_bv (fn_Flow_enter_r7 (0 : Int32) μ1) (fun m6 => some ((0 : Int32), m6))) (some (sd_st (sd_st ν1 4 d (if t = true then 1 else 2)) 0 11 (nI (d + 1)))) μ ν := by
        intro t
        have km : KN ν (sd_st (sd_st ν1 4 d (if t = true then 1 else 2)) 0 11 (nI (d + 1))) := (kn2.tr KN.st4).tr (KN.st0 (by decide))
        have v7 : (sd_st (sd_st ν1 4 d (if t = true then 1 else 2)) 0 11 (nI (d + 1))).1 0 7 = 0 := by rw [pa_sn _ _ _ _ _ (by decide), pa_sc _ _ _ _ _ (by decide)]; exact h72
        have v9 : (sd_st (sd_st ν1 4 d (if t = true then 1 else 2)) 0 11 (nI (d + 1))).1 0 9 ≤ 100 := by rw [pa_sn _ _ _ _ _ (by decide), pa_sc _ _ _ _ _ (by decide)]; exact h92
        have vm : AM (sd_st (sd_st ν1 4 d (if t = true then 1 else 2)) 0 11 (nI (d + 1))) S T := g4.eq (by rw [pa_sn _ _ _ _ _ (by decide), pa_sc _ _ _ _ _ (by decide)]) (by rw [pa_sn _ _ _ _ _ (by decide), pa_sc _ _ _ _ _ (by decide)]) (by rw [pa_sc _ _ _ _ _ (by decide), pa_sc _ _ _ _ _ (by decide)]) (by rw [pa_sc _ _ _ _ _ (by decide), pa_sc _ _ _ _ _ (by decide)])
        have c9 : (sd_st (sd_st ν1 4 d (if t = true then 1 else 2)) 0 11 (nI (d + 1))).1 0 9 = ν1.1 0 9 := by rw [pa_sn _ _ _ _ _ (by decide), pa_sc _ _ _ _ _ (by decide)]
        have c10 : (sd_st (sd_st ν1 4 d (if t = true then 1 else 2)) 0 11 (nI (d + 1))).1 0 10 = ν1.1 0 10 := by rw [pa_sn _ _ _ _ _ (by decide), pa_sc _ _ _ _ _ (by decide)]
        cases t
        · refine ⟨0, sd_st (sd_st μ1 7 0 (nI (d + 1))) 7 1 (nI (d + 1)), _, ?_, rfl, v7, Or.inl rfl, ?_, km, ?_, S, T, ?_, by omega, fun _ => ⟨vm, ⟨d + 1, d + 1, by omega, ?_, pa_ss _ _ _ _, pa_ss _ _ _ _, Nat.le_refl _, ?_⟩, v9⟩⟩
          · rw [if_neg (by decide)]
            unfold fn_Flow_enter_r7
            rw [pa_let, if_pos rfl, a70, pa_sn _ _ _ _ _ (by decide), a71, if_pos (by decide), pa_let, pa_ss, pl1, nI_add, pa_bv]
          · exact ⟨by rw [pa_sc _ _ _ _ _ (by decide), pa_sc _ _ _ _ _ (by decide)]; exact kx.1, by rw [pa_sc _ _ _ _ _ (by decide), pa_sc _ _ _ _ _ (by decide)]; exact kx.2.1, by rw [pa_sc _ _ _ _ _ (by decide), pa_sc _ _ _ _ _ (by decide)]; exact kx.2.2.1, by rw [pa_sc _ _ _ _ _ (by decide), pa_sc _ _ _ _ _ (by decide)]; exact kx.2.2.2.1, by rw [pa_sc _ _ _ _ _ (by decide), pa_sc _ _ _ _ _ (by decide)]; exact kx.2.2.2.2⟩
          · exact ⟨by rw [c9, pa_sc _ _ _ _ _ (by decide), pa_sc _ _ _ _ _ (by decide)]; exact hcn.1, by rw [c10, pa_sc _ _ _ _ _ (by decide), pa_sc _ _ _ _ _ (by decide)]; exact hcn.2⟩
          · exact g3.fr (L := [7]) ((Fr.st (by decide)).tr (Fr.st (by decide))) (by decide) (by decide) (by decide) (by decide)
          · rw [pa_sn _ _ _ _ _ (by decide), pa_ss]
          · intro k hk
            rw [pa_sc _ _ _ _ _ (by decide)]
            unfold pt
            by_cases q : k = d
            · rw [q, pa_ss, if_neg (show ¬ (d + 1 = 0 ∨ d + 1 < d + 1) by omega), if_pos (show d + 1 = d + 1 from rfl)]; rfl
            · rw [pa_sn _ _ _ _ _ q, h42 k (by omega), if_pos (Or.inr (by omega))]
        · refine ⟨0, sd_st μ1 7 0 (nI (d + 1)), _, ?_, rfl, v7, Or.inl rfl, ?_, km, ?_, S, T, ?_, by omega, fun _ => ⟨vm, ⟨d + 1, 0, by omega, pa_ss _ _ _ _, ?_, pa_ss _ _ _ _, Nat.zero_le _, ?_⟩, v9⟩⟩
          · rw [if_pos rfl]
            unfold fn_Flow_enter_r7
            rw [pa_let, if_neg (by decide), a70, pl1, nI_add, pa_bv]
          · exact ⟨by rw [pa_sc _ _ _ _ _ (by decide)]; exact kx.1, by rw [pa_sc _ _ _ _ _ (by decide)]; exact kx.2.1, by rw [pa_sc _ _ _ _ _ (by decide)]; exact kx.2.2.1, by rw [pa_sc _ _ _ _ _ (by decide)]; exact kx.2.2.2.1, by rw [pa_sc _ _ _ _ _ (by decide)]; exact kx.2.2.2.2⟩
          · exact ⟨by rw [c9, pa_sc _ _ _ _ _ (by decide)]; exact hcn.1, by rw [c10, pa_sc _ _ _ _ _ (by decide)]; exact hcn.2⟩
          · exact g3.fr (L := [7]) (Fr.st (by decide)) (by decide) (by decide) (by decide) (by decide)
          · rw [pa_sn _ _ _ _ _ (by decide)]; exact a71
          · intro k hk
            rw [pa_sc _ _ _ _ _ (by decide)]
            unfold pt
            rw [if_pos (Or.inl rfl)]
            by_cases q : k = d
            · rw [q, pa_ss]; rfl
            · rw [pa_sn _ _ _ _ _ q, h42 k (by omega)]
      have J : ∀ (x y : Int32), fn_Model_flow_r0_J77 (nI d) x y ν1 = some (sd_st (sd_st ν1 4 d (if decide (x = y) = true then 1 else 2)) 0 11 (nI (d + 1))) := by
        intro x y
        unfold fn_Model_flow_r0_J77
        by_cases q : x = y
        · rw [if_pos q, decide_eq_true q, if_pos rfl, pa_ix (by omega) (by decide), pa_gd, pa_let, nI_clamp (by omega), pa_let, pa_sc _ _ _ _ _ (by decide), b11, pl1, nI_add]
        · rw [if_neg q, decide_eq_false q, if_neg (by decide), pa_ix (by omega) (by decide), pa_gd, pa_let, nI_clamp (by omega), pa_let, pa_sc _ _ _ _ _ (by decide), b11, pl1, nI_add]
      rcases hwc with ⟨rfl, rfl⟩ | ⟨rfl, rfl⟩
      · rw [if_pos (show (99 : Int32) = 99 from rfl), J]
        have := key (decide (bI (trB e) = 1))
        simp only [decide_eq_true_eq] at this ⊢
        exact this
      · rw [if_neg (show ¬ (100 : Int32) = 99 by decide), J]
        have := key (decide (bI (trB e) = 0))
        simp only [decide_eq_true_eq] at this ⊢
        exact this
  · rw [decide_eq_false z, if_pos (show bI false = 0 by decide), if_pos (show bI false = 0 by decide), f3, pa_ix (by omega) (by decide), pa_gd, pa_let, nI_clamp (by omega), pa_let, pa_sc _ _ _ _ _ (by decide), f3, pl1, nI_add]
    refine ⟨0, sd_st μ 7 0 (nI (d + 1)), _, ?_, rfl, ?_, Or.inl rfl, ?_, KN.st4.tr (KN.st0 (by decide)), ?_, S, T, ?_, by omega, fun _ => ⟨?_, ⟨d + 1, f, by omega, pa_ss _ _ _ _, ?_, pa_ss _ _ _ _, by omega, ?_⟩, ?_⟩⟩
    · unfold fn_Flow_enter_r7
      rw [pa_let, if_pos (by decide), pa_sn _ _ _ _ _ (by decide), f2, if_neg (nI_ne0 (by omega) (by omega)), f1, pl1, nI_add, pa_bv]
    · rw [pa_sn _ _ _ _ _ (by decide), pa_sc _ _ _ _ _ (by decide)]; exact h7
    · exact KS.fr (L := [7]) (Fr.st (by decide)) (by decide) (by decide) (by decide) (by decide) (by decide)
    · exact ⟨by rw [pa_sc _ _ _ _ _ (by decide), pa_sn _ _ _ _ _ (by decide), pa_sc _ _ _ _ _ (by decide)]; exact hc.1, by rw [pa_sc _ _ _ _ _ (by decide), pa_sn _ _ _ _ _ (by decide), pa_sc _ _ _ _ _ (by decide)]; exact hc.2⟩
    · exact hx.fr (L := [7]) (Fr.st (by decide)) (by decide) (by decide) (by decide) (by decide)
    · exact hm.eq (by rw [pa_sn _ _ _ _ _ (by decide), pa_sc _ _ _ _ _ (by decide)]) (by rw [pa_sn _ _ _ _ _ (by decide), pa_sc _ _ _ _ _ (by decide)]) (by rw [pa_sc _ _ _ _ _ (by decide), pa_sc _ _ _ _ _ (by decide)]) (by rw [pa_sc _ _ _ _ _ (by decide), pa_sc _ _ _ _ _ (by decide)])
    · rw [pa_sn _ _ _ _ _ (by decide)]; exact f2
    · intro k hk
      rw [pa_sc _ _ _ _ _ (by decide)]
      by_cases q : k = d
      · rw [q, pa_ss]
        unfold pt
        rw [if_neg (by omega), if_neg (by omega)]
      · rw [pa_sn _ _ _ _ _ q, f5 k (by omega)]
    · rw [pa_sn _ _ _ _ _ (by decide), pa_sc _ _ _ _ _ (by decide)]; exact h9
