def sd_zb (x : Int32) : Bool := decide (x = 0) || decide (x = 1)
theorem sd_zb_n {x : Int32} (h : sd_zb x = true) : narrow .boolean (.int x) = .int x := by
  simp only [sd_zb, Bool.or_eq_true, decide_eq_true_eq] at h
  rcases h with rfl | rfl <;> rfl
def wdX (q : Nat → Nat) (cA : ClassId) (μ : sd_Me) : va_W := [
  (q 0, .inr (0, [.ref (q 1), .int (μ.1 0 1), .int (μ.1 0 2), .int (μ.1 0 3), .ref (q 2), .ref (q 6), .ref (q 7), .ref (q 8), .ref (q 9), .ref (q 14)])),
  (q 1, .inl (cA, 200, .inl (μ.1 1))),
  (q 2, .inr (1, [.ref (q 3), .ref (q 4), .ref (q 5), .int (μ.1 2 3), .int (μ.1 2 4)])),
  (q 3, .inl (cA, 7680, .inl (μ.1 3))),
  (q 4, .inl (cA, 64, .inl (μ.1 4))),
  (q 5, .inl (cA, 64, .inl (μ.1 5))),
  (q 6, .inr (2, [.int (μ.1 6 0)])),
  (q 7, .inr (3, [.int (μ.1 7 0), .int (μ.1 7 1)])),
  (q 8, .inr (4, [.int (μ.1 8 0), .int (μ.1 8 1)])),
  (q 9, .inr (5, [.ref (q 10), .ref (q 11), .int (μ.1 9 2), .ref (q 12), .ref (q 13)])),
  (q 10, .inl (cA, 192, .inl (μ.1 10))),
  (q 11, .inl (cA, 32, .inl (μ.1 11))),
  (q 12, .inl (cA, 64, .inl (μ.1 12))),
  (q 13, .inl (cA, 8, .inl (μ.1 13))),
  (q 14, .inr (6, [.ref (q 15), .ref (q 16), .int (μ.1 14 2), .ref (q 17), .ref (q 18), .ref (q 19), .ref (q 20)])),
  (q 15, .inl (cA, 192, .inl (μ.1 15))),
  (q 16, .inl (cA, 20, .inl (μ.1 16))),
  (q 17, .inl (cA, 16, .inl (μ.1 17))),
  (q 18, .inl (cA, 5, .inl (μ.1 18))),
  (q 19, .inl (cA, 5, .inl (μ.1 19))),
  (q 20, .inl (cA, 5, .inl (μ.1 20)))]
def tabX0_l : List Int32 := [1732584193, -271733879, -1732584194, 271733878, -1009589776]
def tabX0 : Nat → Int32 := fun j => tabX0_l.getD j 0
def tabX1_l : List Int32 := [1779033703, -1150833019, 1013904242, -1521486534, 1359893119, -1694144372, 528734635, 1541459225]
def tabX1 : Nat → Int32 := fun j => tabX1_l.getD j 0
def tabX2_l : List Int32 := [0, 1, 2, 3, 4, 5, 6, 7, 8, 9, 10, 11, 12, 13, 14, 15, 7, 4, 13, 1, 10, 6, 15, 3, 12, 0, 9, 5, 2, 14, 11, 8, 3, 10, 14, 4, 9, 15, 8, 1, 2, 7, 0, 6, 13, 11, 5, 12, 1, 9, 11, 10, 0, 8, 12, 4, 13, 3, 7, 15, 14, 5, 6, 2, 4, 0, 5, 9, 7, 12, 2, 10, 14, 1, 3, 8, 11, 6, 15, 13]
def tabX2 : Nat → Int32 := fun j => tabX2_l.getD j 0
def tabX3_l : List Int32 := [0, 1518500249, 1859775393, -1894007588, -1454113458]
def tabX3 : Nat → Int32 := fun j => tabX3_l.getD j 0
def tabX4_l : List Int32 := [11, 14, 15, 12, 5, 8, 7, 9, 11, 13, 14, 15, 6, 7, 9, 8, 7, 6, 8, 13, 11, 9, 7, 15, 7, 12, 15, 9, 11, 7, 13, 12, 11, 13, 6, 7, 14, 9, 13, 15, 14, 8, 13, 6, 5, 12, 7, 5, 11, 12, 14, 15, 14, 15, 9, 8, 9, 14, 5, 6, 8, 6, 5, 12, 9, 15, 5, 11, 6, 8, 13, 12, 5, 12, 13, 14, 11, 8, 5, 6]
def tabX4 : Nat → Int32 := fun j => tabX4_l.getD j 0
def tabX5_l : List Int32 := [5, 14, 7, 0, 9, 2, 11, 4, 13, 6, 15, 8, 1, 10, 3, 12, 6, 11, 3, 7, 0, 13, 5, 10, 14, 15, 8, 12, 4, 9, 1, 2, 15, 5, 1, 3, 7, 14, 6, 9, 11, 8, 12, 2, 10, 0, 4, 13, 8, 6, 4, 1, 3, 11, 15, 0, 5, 12, 2, 13, 9, 7, 10, 14, 12, 15, 10, 4, 1, 5, 8, 7, 6, 2, 13, 14, 0, 3, 9, 11]
def tabX5 : Nat → Int32 := fun j => tabX5_l.getD j 0
def tabX6_l : List Int32 := [1352829926, 1548603684, 1836072691, 2053994217, 0]
def tabX6 : Nat → Int32 := fun j => tabX6_l.getD j 0
def tabX7_l : List Int32 := [8, 9, 9, 11, 13, 15, 15, 5, 7, 7, 8, 11, 14, 14, 12, 6, 9, 13, 15, 7, 12, 8, 9, 11, 7, 7, 12, 7, 6, 15, 13, 11, 9, 7, 15, 11, 8, 6, 6, 14, 12, 13, 5, 14, 13, 13, 7, 5, 15, 5, 8, 11, 14, 14, 6, 14, 6, 9, 12, 9, 12, 5, 15, 8, 8, 5, 12, 9, 12, 5, 14, 6, 8, 13, 6, 5, 15, 13, 11, 11]
def tabX7 : Nat → Int32 := fun j => tabX7_l.getD j 0
def tabX8_l : List Int32 := [1116352408, 1899447441, -1245643825, -373957723, 961987163, 1508970993, -1841331548, -1424204075, -670586216, 310598401, 607225278, 1426881987, 1925078388, -2132889090, -1680079193, -1046744716, -459576895, -272742522, 264347078, 604807628, 770255983, 1249150122, 1555081692, 1996064986, -1740746414, -1473132947, -1341970488, -1084653625, -958395405, -710438585, 113926993, 338241895, 666307205, 773529912, 1294757372, 1396182291, 1695183700, 1986661051, -2117940946, -1838011259, -1564481375, -1474664885, -1035236496, -949202525, -778901479, -694614492, -200395387, 275423344, 430227734, 506948616, 659060556, 883997877, 958139571, 1322822218, 1537002063, 1747873779, 1955562222, 2024104815, -2067236844, -1933114872, -1866530822, -1538233109, -1090935817, -965641998]
def tabX8 : Nat → Int32 := fun j => tabX8_l.getD j 0
def ZX (tq : Nat → Nat) (A : Nat → Prop) (U : State) (H : Heap) : Prop := va_Nw (.declares ({ cls := "ScriptDesk$BlockDigest", name := "begin", desc := "()V" } : Jvm.MethodName)) U ∧ va_Nw (.declares ({ cls := "ScriptDesk$BlockDigest", name := "mix", desc := "()V" } : Jvm.MethodName)) U ∧ (va_Z "ScriptDesk$Ripemd160" "FIRST" "[I" (.ref (tq 0)) A U H ∧ va_T .int (tq 0) 5 (fun j => .int (tabX0 j)) A U H) ∧ (va_Z "ScriptDesk$Sha256" "FIRST" "[I" (.ref (tq 1)) A U H ∧ va_T .int (tq 1) 8 (fun j => .int (tabX1 j)) A U H) ∧ (va_Z "ScriptDesk$Ripemd160" "LEFT_WORD" "[I" (.ref (tq 2)) A U H ∧ va_T .int (tq 2) 80 (fun j => .int (tabX2 j)) A U H) ∧ (va_Z "ScriptDesk$Ripemd160" "LEFT_ADDED" "[I" (.ref (tq 3)) A U H ∧ va_T .int (tq 3) 5 (fun j => .int (tabX3 j)) A U H) ∧ (va_Z "ScriptDesk$Ripemd160" "LEFT_TURN" "[I" (.ref (tq 4)) A U H ∧ va_T .int (tq 4) 80 (fun j => .int (tabX4 j)) A U H) ∧ (va_Z "ScriptDesk$Ripemd160" "RIGHT_WORD" "[I" (.ref (tq 5)) A U H ∧ va_T .int (tq 5) 80 (fun j => .int (tabX5 j)) A U H) ∧ (va_Z "ScriptDesk$Ripemd160" "RIGHT_ADDED" "[I" (.ref (tq 6)) A U H ∧ va_T .int (tq 6) 5 (fun j => .int (tabX6 j)) A U H) ∧ (va_Z "ScriptDesk$Ripemd160" "RIGHT_TURN" "[I" (.ref (tq 7)) A U H ∧ va_T .int (tq 7) 80 (fun j => .int (tabX7 j)) A U H) ∧ (va_Z "ScriptDesk$Sha256" "ROUND" "[I" (.ref (tq 8)) A U H ∧ va_T .int (tq 8) 64 (fun j => .int (tabX8 j)) A U H)
theorem hZX_D0 {tq : Nat → Nat} {A : Nat → Prop} {U : State} {H : Heap} (h : ZX tq A U H) : va_Nw (.declares ({ cls := "ScriptDesk$BlockDigest", name := "begin", desc := "()V" } : Jvm.MethodName)) U := h.1
theorem hZX_D1 {tq : Nat → Nat} {A : Nat → Prop} {U : State} {H : Heap} (h : ZX tq A U H) : va_Nw (.declares ({ cls := "ScriptDesk$BlockDigest", name := "mix", desc := "()V" } : Jvm.MethodName)) U := h.2.1
theorem sd_Nw_decl {x : MethodName} {u U : State} (h : u.vm.Alike U.vm) (hZ : va_Nw (.declares x) u) : va_Nw (.declares x) U := va_tabs rfl (rfl : (u.setVm U.vm).vm = U.vm) (by rw [Cond.declares_setVm h]; exact hZ)
theorem hZX_Z0 {tq : Nat → Nat} {A : Nat → Prop} {U : State} {H : Heap} (h : ZX tq A U H) : va_Z "ScriptDesk$Ripemd160" "FIRST" "[I" (.ref (tq 0)) A U H := h.2.2.1.1
theorem hZX_T0 {tq : Nat → Nat} {A : Nat → Prop} {U : State} {H : Heap} (h : ZX tq A U H) : va_T .int (tq 0) 5 (fun j => .int (tabX0 j)) A U H := h.2.2.1.2
theorem hZX_Z1 {tq : Nat → Nat} {A : Nat → Prop} {U : State} {H : Heap} (h : ZX tq A U H) : va_Z "ScriptDesk$Sha256" "FIRST" "[I" (.ref (tq 1)) A U H := h.2.2.2.1.1
theorem hZX_T1 {tq : Nat → Nat} {A : Nat → Prop} {U : State} {H : Heap} (h : ZX tq A U H) : va_T .int (tq 1) 8 (fun j => .int (tabX1 j)) A U H := h.2.2.2.1.2
theorem hZX_Z2 {tq : Nat → Nat} {A : Nat → Prop} {U : State} {H : Heap} (h : ZX tq A U H) : va_Z "ScriptDesk$Ripemd160" "LEFT_WORD" "[I" (.ref (tq 2)) A U H := h.2.2.2.2.1.1
theorem hZX_T2 {tq : Nat → Nat} {A : Nat → Prop} {U : State} {H : Heap} (h : ZX tq A U H) : va_T .int (tq 2) 80 (fun j => .int (tabX2 j)) A U H := h.2.2.2.2.1.2
theorem hZX_Z3 {tq : Nat → Nat} {A : Nat → Prop} {U : State} {H : Heap} (h : ZX tq A U H) : va_Z "ScriptDesk$Ripemd160" "LEFT_ADDED" "[I" (.ref (tq 3)) A U H := h.2.2.2.2.2.1.1
theorem hZX_T3 {tq : Nat → Nat} {A : Nat → Prop} {U : State} {H : Heap} (h : ZX tq A U H) : va_T .int (tq 3) 5 (fun j => .int (tabX3 j)) A U H := h.2.2.2.2.2.1.2
theorem hZX_Z4 {tq : Nat → Nat} {A : Nat → Prop} {U : State} {H : Heap} (h : ZX tq A U H) : va_Z "ScriptDesk$Ripemd160" "LEFT_TURN" "[I" (.ref (tq 4)) A U H := h.2.2.2.2.2.2.1.1
theorem hZX_T4 {tq : Nat → Nat} {A : Nat → Prop} {U : State} {H : Heap} (h : ZX tq A U H) : va_T .int (tq 4) 80 (fun j => .int (tabX4 j)) A U H := h.2.2.2.2.2.2.1.2
theorem hZX_Z5 {tq : Nat → Nat} {A : Nat → Prop} {U : State} {H : Heap} (h : ZX tq A U H) : va_Z "ScriptDesk$Ripemd160" "RIGHT_WORD" "[I" (.ref (tq 5)) A U H := h.2.2.2.2.2.2.2.1.1
theorem hZX_T5 {tq : Nat → Nat} {A : Nat → Prop} {U : State} {H : Heap} (h : ZX tq A U H) : va_T .int (tq 5) 80 (fun j => .int (tabX5 j)) A U H := h.2.2.2.2.2.2.2.1.2
theorem hZX_Z6 {tq : Nat → Nat} {A : Nat → Prop} {U : State} {H : Heap} (h : ZX tq A U H) : va_Z "ScriptDesk$Ripemd160" "RIGHT_ADDED" "[I" (.ref (tq 6)) A U H := h.2.2.2.2.2.2.2.2.1.1
theorem hZX_T6 {tq : Nat → Nat} {A : Nat → Prop} {U : State} {H : Heap} (h : ZX tq A U H) : va_T .int (tq 6) 5 (fun j => .int (tabX6 j)) A U H := h.2.2.2.2.2.2.2.2.1.2
theorem hZX_Z7 {tq : Nat → Nat} {A : Nat → Prop} {U : State} {H : Heap} (h : ZX tq A U H) : va_Z "ScriptDesk$Ripemd160" "RIGHT_TURN" "[I" (.ref (tq 7)) A U H := h.2.2.2.2.2.2.2.2.2.1.1
theorem hZX_T7 {tq : Nat → Nat} {A : Nat → Prop} {U : State} {H : Heap} (h : ZX tq A U H) : va_T .int (tq 7) 80 (fun j => .int (tabX7 j)) A U H := h.2.2.2.2.2.2.2.2.2.1.2
theorem hZX_Z8 {tq : Nat → Nat} {A : Nat → Prop} {U : State} {H : Heap} (h : ZX tq A U H) : va_Z "ScriptDesk$Sha256" "ROUND" "[I" (.ref (tq 8)) A U H := h.2.2.2.2.2.2.2.2.2.2.1
theorem hZX_T8 {tq : Nat → Nat} {A : Nat → Prop} {U : State} {H : Heap} (h : ZX tq A U H) : va_T .int (tq 8) 64 (fun j => .int (tabX8 j)) A U H := h.2.2.2.2.2.2.2.2.2.2.2
theorem ZX_ok {tq : Nat → Nat} : sd_ZOK (ZX tq) := by
  intro A B u U H H1 hvm hZ hAB hq
  exact ⟨sd_Nw_decl hvm (hZX_D0 hZ), sd_Nw_decl hvm (hZX_D1 hZ), ⟨(((hZX_Z0 hZ).moved hvm).kept hq).narrow hAB, (((hZX_T0 hZ).moved hvm).kept hq).narrow hAB⟩, ⟨(((hZX_Z1 hZ).moved hvm).kept hq).narrow hAB, (((hZX_T1 hZ).moved hvm).kept hq).narrow hAB⟩, ⟨(((hZX_Z2 hZ).moved hvm).kept hq).narrow hAB, (((hZX_T2 hZ).moved hvm).kept hq).narrow hAB⟩, ⟨(((hZX_Z3 hZ).moved hvm).kept hq).narrow hAB, (((hZX_T3 hZ).moved hvm).kept hq).narrow hAB⟩, ⟨(((hZX_Z4 hZ).moved hvm).kept hq).narrow hAB, (((hZX_T4 hZ).moved hvm).kept hq).narrow hAB⟩, ⟨(((hZX_Z5 hZ).moved hvm).kept hq).narrow hAB, (((hZX_T5 hZ).moved hvm).kept hq).narrow hAB⟩, ⟨(((hZX_Z6 hZ).moved hvm).kept hq).narrow hAB, (((hZX_T6 hZ).moved hvm).kept hq).narrow hAB⟩, ⟨(((hZX_Z7 hZ).moved hvm).kept hq).narrow hAB, (((hZX_T7 hZ).moved hvm).kept hq).narrow hAB⟩, ⟨(((hZX_Z8 hZ).moved hvm).kept hq).narrow hAB, (((hZX_T8 hZ).moved hvm).kept hq).narrow hAB⟩⟩
def wdM (q : Nat → Nat) (cA : ClassId) (μ : sd_Me) : va_W := [
  (q 0, .inr (7, [.ref (q 1), .ref (q 2), .int (μ.1 0 2), .int (μ.1 0 3), .ref (q 3), .int (μ.1 0 5), .long (μ.2 0), .int (μ.1 0 7), .int (μ.1 0 8), .int (μ.1 0 9), .int (μ.1 0 10), .int (μ.1 0 11), .ref (q 4), .long (μ.2 1), .ref (q 5), .ref (q 6), .ref (q 7), .ref (q 8)])),
  (q 1, .inl (cA, 16800, .inl (μ.1 1))),
  (q 2, .inl (cA, 140, .inl (μ.1 2))),
  (q 3, .inl (cA, 200, .inl (μ.1 3))),
  (q 4, .inl (cA, 201, .inl (μ.1 4))),
  (q 5, .inl (cA, 192, .inl (μ.1 5))),
  (q 6, .inl (cA, 64, .inl (μ.1 6))),
  (q 7, .inl (cA, 8, .inl (μ.1 7))),
  (q 8, .inl (cA, 10, .inl (μ.1 8)))]
def tabM0_l : List Int32 := [1116352408, 1899447441, -1245643825, -373957723, 961987163, 1508970993, -1841331548, -1424204075, -670586216, 310598401, 607225278, 1426881987, 1925078388, -2132889090, -1680079193, -1046744716, -459576895, -272742522, 264347078, 604807628, 770255983, 1249150122, 1555081692, 1996064986, -1740746414, -1473132947, -1341970488, -1084653625, -958395405, -710438585, 113926993, 338241895, 666307205, 773529912, 1294757372, 1396182291, 1695183700, 1986661051, -2117940946, -1838011259, -1564481375, -1474664885, -1035236496, -949202525, -778901479, -694614492, -200395387, 275423344, 430227734, 506948616, 659060556, 883997877, 958139571, 1322822218, 1537002063, 1747873779, 1955562222, 2024104815, -2067236844, -1933114872, -1866530822, -1538233109, -1090935817, -965641998]
def tabM0 : Nat → Int32 := fun j => tabM0_l.getD j 0
def tabM1_l : List Int32 := [0, 1, 2, 3, 4, 5, 6, 7, 8, 9, 10, 11, 12, 13, 14, 15, 7, 4, 13, 1, 10, 6, 15, 3, 12, 0, 9, 5, 2, 14, 11, 8, 3, 10, 14, 4, 9, 15, 8, 1, 2, 7, 0, 6, 13, 11, 5, 12, 1, 9, 11, 10, 0, 8, 12, 4, 13, 3, 7, 15, 14, 5, 6, 2, 4, 0, 5, 9, 7, 12, 2, 10, 14, 1, 3, 8, 11, 6, 15, 13]
def tabM1 : Nat → Int32 := fun j => tabM1_l.getD j 0
def tabM2_l : List Int32 := [11, 14, 15, 12, 5, 8, 7, 9, 11, 13, 14, 15, 6, 7, 9, 8, 7, 6, 8, 13, 11, 9, 7, 15, 7, 12, 15, 9, 11, 7, 13, 12, 11, 13, 6, 7, 14, 9, 13, 15, 14, 8, 13, 6, 5, 12, 7, 5, 11, 12, 14, 15, 14, 15, 9, 8, 9, 14, 5, 6, 8, 6, 5, 12, 9, 15, 5, 11, 6, 8, 13, 12, 5, 12, 13, 14, 11, 8, 5, 6]
def tabM2 : Nat → Int32 := fun j => tabM2_l.getD j 0
def tabM3_l : List Int32 := [5, 14, 7, 0, 9, 2, 11, 4, 13, 6, 15, 8, 1, 10, 3, 12, 6, 11, 3, 7, 0, 13, 5, 10, 14, 15, 8, 12, 4, 9, 1, 2, 15, 5, 1, 3, 7, 14, 6, 9, 11, 8, 12, 2, 10, 0, 4, 13, 8, 6, 4, 1, 3, 11, 15, 0, 5, 12, 2, 13, 9, 7, 10, 14, 12, 15, 10, 4, 1, 5, 8, 7, 6, 2, 13, 14, 0, 3, 9, 11]
def tabM3 : Nat → Int32 := fun j => tabM3_l.getD j 0
def tabM4_l : List Int32 := [8, 9, 9, 11, 13, 15, 15, 5, 7, 7, 8, 11, 14, 14, 12, 6, 9, 13, 15, 7, 12, 8, 9, 11, 7, 7, 12, 7, 6, 15, 13, 11, 9, 7, 15, 11, 8, 6, 6, 14, 12, 13, 5, 14, 13, 13, 7, 5, 15, 5, 8, 11, 14, 14, 6, 14, 6, 9, 12, 9, 12, 5, 15, 8, 8, 5, 12, 9, 12, 5, 14, 6, 8, 13, 6, 5, 15, 13, 11, 11]
def tabM4 : Nat → Int32 := fun j => tabM4_l.getD j 0
def ZM (tq : Nat → Nat) (A : Nat → Prop) (U : State) (H : Heap) : Prop := (va_Z "ScriptDeskModel" "CUBES" "[I" (.ref (tq 0)) A U H ∧ va_T .int (tq 0) 64 (fun j => .int (tabM0 j)) A U H) ∧ (va_Z "ScriptDeskModel" "WORDS" "[I" (.ref (tq 1)) A U H ∧ va_T .int (tq 1) 80 (fun j => .int (tabM1 j)) A U H) ∧ (va_Z "ScriptDeskModel" "TURNS" "[I" (.ref (tq 2)) A U H ∧ va_T .int (tq 2) 80 (fun j => .int (tabM2 j)) A U H) ∧ (va_Z "ScriptDeskModel" "OTHERS" "[I" (.ref (tq 3)) A U H ∧ va_T .int (tq 3) 80 (fun j => .int (tabM3 j)) A U H) ∧ (va_Z "ScriptDeskModel" "OTHER_TURNS" "[I" (.ref (tq 4)) A U H ∧ va_T .int (tq 4) 80 (fun j => .int (tabM4 j)) A U H)
theorem hZM_Z0 {tq : Nat → Nat} {A : Nat → Prop} {U : State} {H : Heap} (h : ZM tq A U H) : va_Z "ScriptDeskModel" "CUBES" "[I" (.ref (tq 0)) A U H := h.1.1
theorem hZM_T0 {tq : Nat → Nat} {A : Nat → Prop} {U : State} {H : Heap} (h : ZM tq A U H) : va_T .int (tq 0) 64 (fun j => .int (tabM0 j)) A U H := h.1.2
theorem hZM_Z1 {tq : Nat → Nat} {A : Nat → Prop} {U : State} {H : Heap} (h : ZM tq A U H) : va_Z "ScriptDeskModel" "WORDS" "[I" (.ref (tq 1)) A U H := h.2.1.1
theorem hZM_T1 {tq : Nat → Nat} {A : Nat → Prop} {U : State} {H : Heap} (h : ZM tq A U H) : va_T .int (tq 1) 80 (fun j => .int (tabM1 j)) A U H := h.2.1.2
theorem hZM_Z2 {tq : Nat → Nat} {A : Nat → Prop} {U : State} {H : Heap} (h : ZM tq A U H) : va_Z "ScriptDeskModel" "TURNS" "[I" (.ref (tq 2)) A U H := h.2.2.1.1
theorem hZM_T2 {tq : Nat → Nat} {A : Nat → Prop} {U : State} {H : Heap} (h : ZM tq A U H) : va_T .int (tq 2) 80 (fun j => .int (tabM2 j)) A U H := h.2.2.1.2
theorem hZM_Z3 {tq : Nat → Nat} {A : Nat → Prop} {U : State} {H : Heap} (h : ZM tq A U H) : va_Z "ScriptDeskModel" "OTHERS" "[I" (.ref (tq 3)) A U H := h.2.2.2.1.1
theorem hZM_T3 {tq : Nat → Nat} {A : Nat → Prop} {U : State} {H : Heap} (h : ZM tq A U H) : va_T .int (tq 3) 80 (fun j => .int (tabM3 j)) A U H := h.2.2.2.1.2
theorem hZM_Z4 {tq : Nat → Nat} {A : Nat → Prop} {U : State} {H : Heap} (h : ZM tq A U H) : va_Z "ScriptDeskModel" "OTHER_TURNS" "[I" (.ref (tq 4)) A U H := h.2.2.2.2.1
theorem hZM_T4 {tq : Nat → Nat} {A : Nat → Prop} {U : State} {H : Heap} (h : ZM tq A U H) : va_T .int (tq 4) 80 (fun j => .int (tabM4 j)) A U H := h.2.2.2.2.2
theorem ZM_ok {tq : Nat → Nat} : sd_ZOK (ZM tq) := by
  intro A B u U H H1 hvm hZ hAB hq
  exact ⟨⟨(((hZM_Z0 hZ).moved hvm).kept hq).narrow hAB, (((hZM_T0 hZ).moved hvm).kept hq).narrow hAB⟩, ⟨(((hZM_Z1 hZ).moved hvm).kept hq).narrow hAB, (((hZM_T1 hZ).moved hvm).kept hq).narrow hAB⟩, ⟨(((hZM_Z2 hZ).moved hvm).kept hq).narrow hAB, (((hZM_T2 hZ).moved hvm).kept hq).narrow hAB⟩, ⟨(((hZM_Z3 hZ).moved hvm).kept hq).narrow hAB, (((hZM_T3 hZ).moved hvm).kept hq).narrow hAB⟩, ⟨(((hZM_Z4 hZ).moved hvm).kept hq).narrow hAB, (((hZM_T4 hZ).moved hvm).kept hq).narrow hAB⟩⟩
