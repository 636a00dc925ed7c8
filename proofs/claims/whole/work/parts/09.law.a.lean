def law_fl : List Cond := flatC (Jvm.Cond.and given_1 narrow_1)
theorem law_hgv {args : Array Value} {s : State} (h : (Jvm.Cond.and given_1 narrow_1).before args s = true) : ∀ c ∈ law_fl, c.before args s = true := flat_of_before _ h
theorem law_rX0 : (List.range 5).map (fun j => Cond.eq (.elem (Jvm.Term.static "ScriptDesk$Ripemd160" "FIRST" "[I") (.int (Int32.ofNat j))) (.int (tabX0 j))) = (law_fl.drop 7).take 5 := by decide +kernel
theorem law_tX0 {args : Array Value} {s : State} {A : Nat → Prop} (hts : ∀ w ∈ lw_tbl, w.before args s = true) (hg : ∀ c ∈ law_fl, c.before args s = true) (hA : ∀ a : Nat, a < s.heap.size → ¬ A a) : ∃ t : Nat, va_Z "ScriptDesk$Ripemd160" "FIRST" "[I" (.ref t) A s s.heap ∧ va_T .int t 5 (fun j => .int (tabX0 j)) A s s.heap := by
  have harr : (Cond.arrayOf (Jvm.Term.static "ScriptDesk$Ripemd160" "FIRST" "[I") .int).before args s = true := hg _ (List.mem_of_getElem? (i := 5) (by decide +kernel))
  have hlen : (Cond.eq (.length (Jvm.Term.static "ScriptDesk$Ripemd160" "FIRST" "[I")) (.int (5 : Int32))).before args s = true := hg _ (List.mem_of_getElem? (i := 6) (by decide +kernel))
  obtain ⟨t, h1, h2⟩ := va_Tof (N := 5) (f := fun j => .int (tabX0 j)) (A := A) (by decide) harr (va_eqt hlen) (fun j hj => va_eqt (hg _ (va_run law_rX0 j hj))) hA
  exact ⟨t, va_Zref (hts _ (List.mem_append_right _ (List.mem_of_getElem? (i := 403) (by decide +kernel)))) (hts _ (List.mem_append_right _ (List.mem_of_getElem? (i := 8) (by decide +kernel)))) h1 hA, h2⟩
theorem law_rX1 : (List.range 8).map (fun j => Cond.eq (.elem (Jvm.Term.static "ScriptDesk$Sha256" "FIRST" "[I") (.int (Int32.ofNat j))) (.int (tabX1 j))) = (law_fl.drop 15).take 8 := by decide +kernel
theorem law_tX1 {args : Array Value} {s : State} {A : Nat → Prop} (hts : ∀ w ∈ lw_tbl, w.before args s = true) (hg : ∀ c ∈ law_fl, c.before args s = true) (hA : ∀ a : Nat, a < s.heap.size → ¬ A a) : ∃ t : Nat, va_Z "ScriptDesk$Sha256" "FIRST" "[I" (.ref t) A s s.heap ∧ va_T .int t 8 (fun j => .int (tabX1 j)) A s s.heap := by
  have harr : (Cond.arrayOf (Jvm.Term.static "ScriptDesk$Sha256" "FIRST" "[I") .int).before args s = true := hg _ (List.mem_of_getElem? (i := 13) (by decide +kernel))
  have hlen : (Cond.eq (.length (Jvm.Term.static "ScriptDesk$Sha256" "FIRST" "[I")) (.int (8 : Int32))).before args s = true := hg _ (List.mem_of_getElem? (i := 14) (by decide +kernel))
  obtain ⟨t, h1, h2⟩ := va_Tof (N := 8) (f := fun j => .int (tabX1 j)) (A := A) (by decide) harr (va_eqt hlen) (fun j hj => va_eqt (hg _ (va_run law_rX1 j hj))) hA
  exact ⟨t, va_Zref (hts _ (List.mem_append_right _ (List.mem_of_getElem? (i := 409) (by decide +kernel)))) (hts _ (List.mem_append_right _ (List.mem_of_getElem? (i := 7) (by decide +kernel)))) h1 hA, h2⟩
theorem law_rX2 : (List.range 80).map (fun j => Cond.eq (.elem (Jvm.Term.static "ScriptDesk$Ripemd160" "LEFT_WORD" "[I") (.int (Int32.ofNat j))) (.int (tabX2 j))) = (law_fl.drop 26).take 80 := by decide +kernel
theorem law_tX2 {args : Array Value} {s : State} {A : Nat → Prop} (hts : ∀ w ∈ lw_tbl, w.before args s = true) (hg : ∀ c ∈ law_fl, c.before args s = true) (hA : ∀ a : Nat, a < s.heap.size → ¬ A a) : ∃ t : Nat, va_Z "ScriptDesk$Ripemd160" "LEFT_WORD" "[I" (.ref t) A s s.heap ∧ va_T .int t 80 (fun j => .int (tabX2 j)) A s s.heap := by
  have harr : (Cond.arrayOf (Jvm.Term.static "ScriptDesk$Ripemd160" "LEFT_WORD" "[I") .int).before args s = true := hg _ (List.mem_of_getElem? (i := 24) (by decide +kernel))
  have hlen : (Cond.eq (.length (Jvm.Term.static "ScriptDesk$Ripemd160" "LEFT_WORD" "[I")) (.int (80 : Int32))).before args s = true := hg _ (List.mem_of_getElem? (i := 25) (by decide +kernel))
  obtain ⟨t, h1, h2⟩ := va_Tof (N := 80) (f := fun j => .int (tabX2 j)) (A := A) (by decide) harr (va_eqt hlen) (fun j hj => va_eqt (hg _ (va_run law_rX2 j hj))) hA
  exact ⟨t, va_Zref (hts _ (List.mem_append_right _ (List.mem_of_getElem? (i := 422) (by decide +kernel)))) (hts _ (List.mem_append_right _ (List.mem_of_getElem? (i := 8) (by decide +kernel)))) h1 hA, h2⟩
theorem law_rX3 : (List.range 5).map (fun j => Cond.eq (.elem (Jvm.Term.static "ScriptDesk$Ripemd160" "LEFT_ADDED" "[I") (.int (Int32.ofNat j))) (.int (tabX3 j))) = (law_fl.drop 109).take 5 := by decide +kernel
theorem law_tX3 {args : Array Value} {s : State} {A : Nat → Prop} (hts : ∀ w ∈ lw_tbl, w.before args s = true) (hg : ∀ c ∈ law_fl, c.before args s = true) (hA : ∀ a : Nat, a < s.heap.size → ¬ A a) : ∃ t : Nat, va_Z "ScriptDesk$Ripemd160" "LEFT_ADDED" "[I" (.ref t) A s s.heap ∧ va_T .int t 5 (fun j => .int (tabX3 j)) A s s.heap := by
  have harr : (Cond.arrayOf (Jvm.Term.static "ScriptDesk$Ripemd160" "LEFT_ADDED" "[I") .int).before args s = true := hg _ (List.mem_of_getElem? (i := 107) (by decide +kernel))
  have hlen : (Cond.eq (.length (Jvm.Term.static "ScriptDesk$Ripemd160" "LEFT_ADDED" "[I")) (.int (5 : Int32))).before args s = true := hg _ (List.mem_of_getElem? (i := 108) (by decide +kernel))
  obtain ⟨t, h1, h2⟩ := va_Tof (N := 5) (f := fun j => .int (tabX3 j)) (A := A) (by decide) harr (va_eqt hlen) (fun j hj => va_eqt (hg _ (va_run law_rX3 j hj))) hA
  exact ⟨t, va_Zref (hts _ (List.mem_append_right _ (List.mem_of_getElem? (i := 424) (by decide +kernel)))) (hts _ (List.mem_append_right _ (List.mem_of_getElem? (i := 8) (by decide +kernel)))) h1 hA, h2⟩
theorem law_rX4 : (List.range 80).map (fun j => Cond.eq (.elem (Jvm.Term.static "ScriptDesk$Ripemd160" "LEFT_TURN" "[I") (.int (Int32.ofNat j))) (.int (tabX4 j))) = (law_fl.drop 117).take 80 := by decide +kernel
theorem law_tX4 {args : Array Value} {s : State} {A : Nat → Prop} (hts : ∀ w ∈ lw_tbl, w.before args s = true) (hg : ∀ c ∈ law_fl, c.before args s = true) (hA : ∀ a : Nat, a < s.heap.size → ¬ A a) : ∃ t : Nat, va_Z "ScriptDesk$Ripemd160" "LEFT_TURN" "[I" (.ref t) A s s.heap ∧ va_T .int t 80 (fun j => .int (tabX4 j)) A s s.heap := by
  have harr : (Cond.arrayOf (Jvm.Term.static "ScriptDesk$Ripemd160" "LEFT_TURN" "[I") .int).before args s = true := hg _ (List.mem_of_getElem? (i := 115) (by decide +kernel))
  have hlen : (Cond.eq (.length (Jvm.Term.static "ScriptDesk$Ripemd160" "LEFT_TURN" "[I")) (.int (80 : Int32))).before args s = true := hg _ (List.mem_of_getElem? (i := 116) (by decide +kernel))
  obtain ⟨t, h1, h2⟩ := va_Tof (N := 80) (f := fun j => .int (tabX4 j)) (A := A) (by decide) harr (va_eqt hlen) (fun j hj => va_eqt (hg _ (va_run law_rX4 j hj))) hA
  exact ⟨t, va_Zref (hts _ (List.mem_append_right _ (List.mem_of_getElem? (i := 426) (by decide +kernel)))) (hts _ (List.mem_append_right _ (List.mem_of_getElem? (i := 8) (by decide +kernel)))) h1 hA, h2⟩
theorem law_rX5 : (List.range 80).map (fun j => Cond.eq (.elem (Jvm.Term.static "ScriptDesk$Ripemd160" "RIGHT_WORD" "[I") (.int (Int32.ofNat j))) (.int (tabX5 j))) = (law_fl.drop 200).take 80 := by decide +kernel
theorem law_tX5 {args : Array Value} {s : State} {A : Nat → Prop} (hts : ∀ w ∈ lw_tbl, w.before args s = true) (hg : ∀ c ∈ law_fl, c.before args s = true) (hA : ∀ a : Nat, a < s.heap.size → ¬ A a) : ∃ t : Nat, va_Z "ScriptDesk$Ripemd160" "RIGHT_WORD" "[I" (.ref t) A s s.heap ∧ va_T .int t 80 (fun j => .int (tabX5 j)) A s s.heap := by
  have harr : (Cond.arrayOf (Jvm.Term.static "ScriptDesk$Ripemd160" "RIGHT_WORD" "[I") .int).before args s = true := hg _ (List.mem_of_getElem? (i := 198) (by decide +kernel))
  have hlen : (Cond.eq (.length (Jvm.Term.static "ScriptDesk$Ripemd160" "RIGHT_WORD" "[I")) (.int (80 : Int32))).before args s = true := hg _ (List.mem_of_getElem? (i := 199) (by decide +kernel))
  obtain ⟨t, h1, h2⟩ := va_Tof (N := 80) (f := fun j => .int (tabX5 j)) (A := A) (by decide) harr (va_eqt hlen) (fun j hj => va_eqt (hg _ (va_run law_rX5 j hj))) hA
  exact ⟨t, va_Zref (hts _ (List.mem_append_right _ (List.mem_of_getElem? (i := 437) (by decide +kernel)))) (hts _ (List.mem_append_right _ (List.mem_of_getElem? (i := 8) (by decide +kernel)))) h1 hA, h2⟩
theorem law_rX6 : (List.range 5).map (fun j => Cond.eq (.elem (Jvm.Term.static "ScriptDesk$Ripemd160" "RIGHT_ADDED" "[I") (.int (Int32.ofNat j))) (.int (tabX6 j))) = (law_fl.drop 283).take 5 := by decide +kernel
theorem law_tX6 {args : Array Value} {s : State} {A : Nat → Prop} (hts : ∀ w ∈ lw_tbl, w.before args s = true) (hg : ∀ c ∈ law_fl, c.before args s = true) (hA : ∀ a : Nat, a < s.heap.size → ¬ A a) : ∃ t : Nat, va_Z "ScriptDesk$Ripemd160" "RIGHT_ADDED" "[I" (.ref t) A s s.heap ∧ va_T .int t 5 (fun j => .int (tabX6 j)) A s s.heap := by
  have harr : (Cond.arrayOf (Jvm.Term.static "ScriptDesk$Ripemd160" "RIGHT_ADDED" "[I") .int).before args s = true := hg _ (List.mem_of_getElem? (i := 281) (by decide +kernel))
  have hlen : (Cond.eq (.length (Jvm.Term.static "ScriptDesk$Ripemd160" "RIGHT_ADDED" "[I")) (.int (5 : Int32))).before args s = true := hg _ (List.mem_of_getElem? (i := 282) (by decide +kernel))
  obtain ⟨t, h1, h2⟩ := va_Tof (N := 5) (f := fun j => .int (tabX6 j)) (A := A) (by decide) harr (va_eqt hlen) (fun j hj => va_eqt (hg _ (va_run law_rX6 j hj))) hA
  exact ⟨t, va_Zref (hts _ (List.mem_append_right _ (List.mem_of_getElem? (i := 439) (by decide +kernel)))) (hts _ (List.mem_append_right _ (List.mem_of_getElem? (i := 8) (by decide +kernel)))) h1 hA, h2⟩
theorem law_rX7 : (List.range 80).map (fun j => Cond.eq (.elem (Jvm.Term.static "ScriptDesk$Ripemd160" "RIGHT_TURN" "[I") (.int (Int32.ofNat j))) (.int (tabX7 j))) = (law_fl.drop 291).take 80 := by decide +kernel
theorem law_tX7 {args : Array Value} {s : State} {A : Nat → Prop} (hts : ∀ w ∈ lw_tbl, w.before args s = true) (hg : ∀ c ∈ law_fl, c.before args s = true) (hA : ∀ a : Nat, a < s.heap.size → ¬ A a) : ∃ t : Nat, va_Z "ScriptDesk$Ripemd160" "RIGHT_TURN" "[I" (.ref t) A s s.heap ∧ va_T .int t 80 (fun j => .int (tabX7 j)) A s s.heap := by
  have harr : (Cond.arrayOf (Jvm.Term.static "ScriptDesk$Ripemd160" "RIGHT_TURN" "[I") .int).before args s = true := hg _ (List.mem_of_getElem? (i := 289) (by decide +kernel))
  have hlen : (Cond.eq (.length (Jvm.Term.static "ScriptDesk$Ripemd160" "RIGHT_TURN" "[I")) (.int (80 : Int32))).before args s = true := hg _ (List.mem_of_getElem? (i := 290) (by decide +kernel))
  obtain ⟨t, h1, h2⟩ := va_Tof (N := 80) (f := fun j => .int (tabX7 j)) (A := A) (by decide) harr (va_eqt hlen) (fun j hj => va_eqt (hg _ (va_run law_rX7 j hj))) hA
  exact ⟨t, va_Zref (hts _ (List.mem_append_right _ (List.mem_of_getElem? (i := 441) (by decide +kernel)))) (hts _ (List.mem_append_right _ (List.mem_of_getElem? (i := 8) (by decide +kernel)))) h1 hA, h2⟩
theorem law_rX8 : (List.range 64).map (fun j => Cond.eq (.elem (Jvm.Term.static "ScriptDesk$Sha256" "ROUND" "[I") (.int (Int32.ofNat j))) (.int (tabX8 j))) = (law_fl.drop 374).take 64 := by decide +kernel
theorem law_tX8 {args : Array Value} {s : State} {A : Nat → Prop} (hts : ∀ w ∈ lw_tbl, w.before args s = true) (hg : ∀ c ∈ law_fl, c.before args s = true) (hA : ∀ a : Nat, a < s.heap.size → ¬ A a) : ∃ t : Nat, va_Z "ScriptDesk$Sha256" "ROUND" "[I" (.ref t) A s s.heap ∧ va_T .int t 64 (fun j => .int (tabX8 j)) A s s.heap := by
  have harr : (Cond.arrayOf (Jvm.Term.static "ScriptDesk$Sha256" "ROUND" "[I") .int).before args s = true := hg _ (List.mem_of_getElem? (i := 372) (by decide +kernel))
  have hlen : (Cond.eq (.length (Jvm.Term.static "ScriptDesk$Sha256" "ROUND" "[I")) (.int (64 : Int32))).before args s = true := hg _ (List.mem_of_getElem? (i := 373) (by decide +kernel))
  obtain ⟨t, h1, h2⟩ := va_Tof (N := 64) (f := fun j => .int (tabX8 j)) (A := A) (by decide) harr (va_eqt hlen) (fun j hj => va_eqt (hg _ (va_run law_rX8 j hj))) hA
  exact ⟨t, va_Zref (hts _ (List.mem_append_right _ (List.mem_of_getElem? (i := 453) (by decide +kernel)))) (hts _ (List.mem_append_right _ (List.mem_of_getElem? (i := 7) (by decide +kernel)))) h1 hA, h2⟩
theorem law_rM0 : (List.range 64).map (fun j => Cond.eq (.elem (Jvm.Term.static "ScriptDeskModel" "CUBES" "[I") (.int (Int32.ofNat j))) (.int (tabM0 j))) = (law_fl.drop 441).take 64 := by decide +kernel
theorem law_tM0 {args : Array Value} {s : State} {A : Nat → Prop} (hts : ∀ w ∈ lw_tbl, w.before args s = true) (hg : ∀ c ∈ law_fl, c.before args s = true) (hA : ∀ a : Nat, a < s.heap.size → ¬ A a) : ∃ t : Nat, va_Z "ScriptDeskModel" "CUBES" "[I" (.ref t) A s s.heap ∧ va_T .int t 64 (fun j => .int (tabM0 j)) A s s.heap := by
  have harr : (Cond.arrayOf (Jvm.Term.static "ScriptDeskModel" "CUBES" "[I") .int).before args s = true := hg _ (List.mem_of_getElem? (i := 439) (by decide +kernel))
  have hlen : (Cond.eq (.length (Jvm.Term.static "ScriptDeskModel" "CUBES" "[I")) (.int (64 : Int32))).before args s = true := hg _ (List.mem_of_getElem? (i := 440) (by decide +kernel))
  obtain ⟨t, h1, h2⟩ := va_Tof (N := 64) (f := fun j => .int (tabM0 j)) (A := A) (by decide) harr (va_eqt hlen) (fun j hj => va_eqt (hg _ (va_run law_rM0 j hj))) hA
  exact ⟨t, va_Zref (hts _ (List.mem_append_right _ (List.mem_of_getElem? (i := 721) (by decide +kernel)))) (hts _ (List.mem_append_right _ (List.mem_of_getElem? (i := 9) (by decide +kernel)))) h1 hA, h2⟩
theorem law_rM1 : (List.range 80).map (fun j => Cond.eq (.elem (Jvm.Term.static "ScriptDeskModel" "WORDS" "[I") (.int (Int32.ofNat j))) (.int (tabM1 j))) = (law_fl.drop 508).take 80 := by decide +kernel
theorem law_tM1 {args : Array Value} {s : State} {A : Nat → Prop} (hts : ∀ w ∈ lw_tbl, w.before args s = true) (hg : ∀ c ∈ law_fl, c.before args s = true) (hA : ∀ a : Nat, a < s.heap.size → ¬ A a) : ∃ t : Nat, va_Z "ScriptDeskModel" "WORDS" "[I" (.ref t) A s s.heap ∧ va_T .int t 80 (fun j => .int (tabM1 j)) A s s.heap := by
  have harr : (Cond.arrayOf (Jvm.Term.static "ScriptDeskModel" "WORDS" "[I") .int).before args s = true := hg _ (List.mem_of_getElem? (i := 506) (by decide +kernel))
  have hlen : (Cond.eq (.length (Jvm.Term.static "ScriptDeskModel" "WORDS" "[I")) (.int (80 : Int32))).before args s = true := hg _ (List.mem_of_getElem? (i := 507) (by decide +kernel))
  obtain ⟨t, h1, h2⟩ := va_Tof (N := 80) (f := fun j => .int (tabM1 j)) (A := A) (by decide) harr (va_eqt hlen) (fun j hj => va_eqt (hg _ (va_run law_rM1 j hj))) hA
  exact ⟨t, va_Zref (hts _ (List.mem_append_right _ (List.mem_of_getElem? (i := 743) (by decide +kernel)))) (hts _ (List.mem_append_right _ (List.mem_of_getElem? (i := 9) (by decide +kernel)))) h1 hA, h2⟩
theorem law_rM2 : (List.range 80).map (fun j => Cond.eq (.elem (Jvm.Term.static "ScriptDeskModel" "TURNS" "[I") (.int (Int32.ofNat j))) (.int (tabM2 j))) = (law_fl.drop 591).take 80 := by decide +kernel
theorem law_tM2 {args : Array Value} {s : State} {A : Nat → Prop} (hts : ∀ w ∈ lw_tbl, w.before args s = true) (hg : ∀ c ∈ law_fl, c.before args s = true) (hA : ∀ a : Nat, a < s.heap.size → ¬ A a) : ∃ t : Nat, va_Z "ScriptDeskModel" "TURNS" "[I" (.ref t) A s s.heap ∧ va_T .int t 80 (fun j => .int (tabM2 j)) A s s.heap := by
  have harr : (Cond.arrayOf (Jvm.Term.static "ScriptDeskModel" "TURNS" "[I") .int).before args s = true := hg _ (List.mem_of_getElem? (i := 589) (by decide +kernel))
  have hlen : (Cond.eq (.length (Jvm.Term.static "ScriptDeskModel" "TURNS" "[I")) (.int (80 : Int32))).before args s = true := hg _ (List.mem_of_getElem? (i := 590) (by decide +kernel))
  obtain ⟨t, h1, h2⟩ := va_Tof (N := 80) (f := fun j => .int (tabM2 j)) (A := A) (by decide) harr (va_eqt hlen) (fun j hj => va_eqt (hg _ (va_run law_rM2 j hj))) hA
  exact ⟨t, va_Zref (hts _ (List.mem_append_right _ (List.mem_of_getElem? (i := 745) (by decide +kernel)))) (hts _ (List.mem_append_right _ (List.mem_of_getElem? (i := 9) (by decide +kernel)))) h1 hA, h2⟩
theorem law_rM3 : (List.range 80).map (fun j => Cond.eq (.elem (Jvm.Term.static "ScriptDeskModel" "OTHERS" "[I") (.int (Int32.ofNat j))) (.int (tabM3 j))) = (law_fl.drop 674).take 80 := by decide +kernel
theorem law_tM3 {args : Array Value} {s : State} {A : Nat → Prop} (hts : ∀ w ∈ lw_tbl, w.before args s = true) (hg : ∀ c ∈ law_fl, c.before args s = true) (hA : ∀ a : Nat, a < s.heap.size → ¬ A a) : ∃ t : Nat, va_Z "ScriptDeskModel" "OTHERS" "[I" (.ref t) A s s.heap ∧ va_T .int t 80 (fun j => .int (tabM3 j)) A s s.heap := by
  have harr : (Cond.arrayOf (Jvm.Term.static "ScriptDeskModel" "OTHERS" "[I") .int).before args s = true := hg _ (List.mem_of_getElem? (i := 672) (by decide +kernel))
  have hlen : (Cond.eq (.length (Jvm.Term.static "ScriptDeskModel" "OTHERS" "[I")) (.int (80 : Int32))).before args s = true := hg _ (List.mem_of_getElem? (i := 673) (by decide +kernel))
  obtain ⟨t, h1, h2⟩ := va_Tof (N := 80) (f := fun j => .int (tabM3 j)) (A := A) (by decide) harr (va_eqt hlen) (fun j hj => va_eqt (hg _ (va_run law_rM3 j hj))) hA
  exact ⟨t, va_Zref (hts _ (List.mem_append_right _ (List.mem_of_getElem? (i := 751) (by decide +kernel)))) (hts _ (List.mem_append_right _ (List.mem_of_getElem? (i := 9) (by decide +kernel)))) h1 hA, h2⟩
theorem law_rM4 : (List.range 80).map (fun j => Cond.eq (.elem (Jvm.Term.static "ScriptDeskModel" "OTHER_TURNS" "[I") (.int (Int32.ofNat j))) (.int (tabM4 j))) = (law_fl.drop 757).take 80 := by decide +kernel
theorem law_tM4 {args : Array Value} {s : State} {A : Nat → Prop} (hts : ∀ w ∈ lw_tbl, w.before args s = true) (hg : ∀ c ∈ law_fl, c.before args s = true) (hA : ∀ a : Nat, a < s.heap.size → ¬ A a) : ∃ t : Nat, va_Z "ScriptDeskModel" "OTHER_TURNS" "[I" (.ref t) A s s.heap ∧ va_T .int t 80 (fun j => .int (tabM4 j)) A s s.heap := by
  have harr : (Cond.arrayOf (Jvm.Term.static "ScriptDeskModel" "OTHER_TURNS" "[I") .int).before args s = true := hg _ (List.mem_of_getElem? (i := 755) (by decide +kernel))
  have hlen : (Cond.eq (.length (Jvm.Term.static "ScriptDeskModel" "OTHER_TURNS" "[I")) (.int (80 : Int32))).before args s = true := hg _ (List.mem_of_getElem? (i := 756) (by decide +kernel))
  obtain ⟨t, h1, h2⟩ := va_Tof (N := 80) (f := fun j => .int (tabM4 j)) (A := A) (by decide) harr (va_eqt hlen) (fun j hj => va_eqt (hg _ (va_run law_rM4 j hj))) hA
  exact ⟨t, va_Zref (hts _ (List.mem_append_right _ (List.mem_of_getElem? (i := 753) (by decide +kernel)))) (hts _ (List.mem_append_right _ (List.mem_of_getElem? (i := 9) (by decide +kernel)))) h1 hA, h2⟩
theorem law_ZX {args : Array Value} {s : State} {A : Nat → Prop} (hts : ∀ w ∈ lw_tbl, w.before args s = true) (hg : ∀ c ∈ law_fl, c.before args s = true) (hA : ∀ a : Nat, a < s.heap.size → ¬ A a) : ∃ tq : Nat → Nat, ZX tq A s s.heap := by
  obtain ⟨t0, z0, u0⟩ := law_tX0 hts hg hA
  obtain ⟨t1, z1, u1⟩ := law_tX1 hts hg hA
  obtain ⟨t2, z2, u2⟩ := law_tX2 hts hg hA
  obtain ⟨t3, z3, u3⟩ := law_tX3 hts hg hA
  obtain ⟨t4, z4, u4⟩ := law_tX4 hts hg hA
  obtain ⟨t5, z5, u5⟩ := law_tX5 hts hg hA
  obtain ⟨t6, z6, u6⟩ := law_tX6 hts hg hA
  obtain ⟨t7, z7, u7⟩ := law_tX7 hts hg hA
  obtain ⟨t8, z8, u8⟩ := law_tX8 hts hg hA
  refine ⟨fun k => match k with
    | 0 => t0
    | 1 => t1
    | 2 => t2
    | 3 => t3
    | 4 => t4
    | 5 => t5
    | 6 => t6
    | 7 => t7
    | _ => t8, ?_⟩
  exact ⟨va_Nw.of rfl (hts _ (List.mem_append_right _ (List.mem_of_getElem? (i := 397) (by decide +kernel)))), va_Nw.of rfl (hts _ (List.mem_append_right _ (List.mem_of_getElem? (i := 416) (by decide +kernel)))), ⟨z0, u0⟩, ⟨z1, u1⟩, ⟨z2, u2⟩, ⟨z3, u3⟩, ⟨z4, u4⟩, ⟨z5, u5⟩, ⟨z6, u6⟩, ⟨z7, u7⟩, ⟨z8, u8⟩⟩
theorem law_ZM {args : Array Value} {s : State} {A : Nat → Prop} (hts : ∀ w ∈ lw_tbl, w.before args s = true) (hg : ∀ c ∈ law_fl, c.before args s = true) (hA : ∀ a : Nat, a < s.heap.size → ¬ A a) : ∃ tq : Nat → Nat, ZM tq A s s.heap := by
  obtain ⟨t0, z0, u0⟩ := law_tM0 hts hg hA
  obtain ⟨t1, z1, u1⟩ := law_tM1 hts hg hA
  obtain ⟨t2, z2, u2⟩ := law_tM2 hts hg hA
  obtain ⟨t3, z3, u3⟩ := law_tM3 hts hg hA
  obtain ⟨t4, z4, u4⟩ := law_tM4 hts hg hA
  refine ⟨fun k => match k with
    | 0 => t0
    | 1 => t1
    | 2 => t2
    | 3 => t3
    | _ => t4, ?_⟩
  exact ⟨⟨z0, u0⟩, ⟨z1, u1⟩, ⟨z2, u2⟩, ⟨z3, u3⟩, ⟨z4, u4⟩⟩
