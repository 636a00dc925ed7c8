/-! BASE: a system's cells are fixed once it is made; what they hold is a memory of ints (cell, place); a method is a function on memories, partial (an index out of its row, no fuel: none) -/
abbrev sd_Me : Type := (Nat → Nat → Int32) × (Nat → Int64)
/-- one row replaced -/
def sd_mrow (μ : sd_Me) (c : Nat) (f : Nat → Int32) : sd_Me := (fun k => if k = c then f else μ.1 k, μ.2)
/-- one place of one row replaced -/
def sd_st (μ : sd_Me) (c i : Nat) (v : Int32) : sd_Me := sd_mrow μ c (upd (μ.1 c) i v)
/-- a long replaced -/
def sd_lst (μ : sd_Me) (c : Nat) (v : Int64) : sd_Me := (μ.1, fun k => if k = c then v else μ.2 k)
theorem sd_mrow_s {μ : sd_Me} {c : Nat} {f : Nat → Int32} : (sd_mrow μ c f).1 c = f := if_pos rfl
theorem sd_mrow_n {μ : sd_Me} {c k : Nat} {f : Nat → Int32} (h : k ≠ c) : (sd_mrow μ c f).1 k = μ.1 k := if_neg h
def sd_let {α β : Type} (v : α) (b : α → β) : β := b v
def sd_gd {β : Type} (b : Bool) (x : Option β) : Option β := match b with
  | true => x
  | false => none
theorem sd_gd_e {β : Type} {b : Bool} {x : Option β} {r : β} (h : sd_gd b x = some r) : b = true ∧ x = some r := by
  cases b with
  | true => exact ⟨rfl, h⟩
  | false => cases h
def sd_ix (i : Int32) (n : Nat) : Bool := decide (0 ≤ i.toInt) && decide (i.toInt < n)
theorem sd_ix_in {i : Int32} {n : Nat} (h : sd_ix i n = true) : vp_in i n := by
  simp only [sd_ix, Bool.and_eq_true, decide_eq_true_eq] at h
  exact vp_in_iff.mpr h
theorem sd_t {β : Type} {c : Prop} {d : Decidable c} {a b : Option β} {r : Option β} (h : (if c then a else b) = r) (hc : c) : a = r := by
  rw [if_pos hc] at h
  exact h
theorem sd_f {β : Type} {c : Prop} {d : Decidable c} {a b : Option β} {r : Option β} (h : (if c then a else b) = r) (hc : ¬ c) : b = r := by
  rw [if_neg hc] at h
  exact h
def sd_bi {β : Type} (o : Option (Int32 × sd_Me)) (k : Int32 → sd_Me → Option β) : Option β := match o with
  | none => none
  | some z => k z.1 z.2
def sd_bl {β : Type} (o : Option (Int64 × sd_Me)) (k : Int64 → sd_Me → Option β) : Option β := match o with
  | none => none
  | some z => k z.1 z.2
def sd_bv {β : Type} (o : Option sd_Me) (k : sd_Me → Option β) : Option β := match o with
  | none => none
  | some z => k z
theorem sd_bi_e {β : Type} {o : Option (Int32 × sd_Me)} {k : Int32 → sd_Me → Option β} {r : β} (h : sd_bi o k = some r) : ∃ (x : Int32) (μ : sd_Me), o = some (x, μ) ∧ k x μ = some r := by
  cases o with
  | none => cases h
  | some z => exact ⟨z.1, z.2, rfl, h⟩
theorem sd_bl_e {β : Type} {o : Option (Int64 × sd_Me)} {k : Int64 → sd_Me → Option β} {r : β} (h : sd_bl o k = some r) : ∃ (x : Int64) (μ : sd_Me), o = some (x, μ) ∧ k x μ = some r := by
  cases o with
  | none => cases h
  | some z => exact ⟨z.1, z.2, rfl, h⟩
theorem sd_bv_e {β : Type} {o : Option sd_Me} {k : sd_Me → Option β} {r : β} (h : sd_bv o k = some r) : ∃ μ : sd_Me, o = some μ ∧ k μ = some r := by
  cases o with
  | none => cases h
  | some z => exact ⟨z, rfl, h⟩
/-- shifts as javac has them -/
def sd_usr (x y : Int32) : Int32 := (x.toUInt32 >>> (y.toUInt32 &&& Int32.toUInt32 31)).toInt32
def sd_lusr (x : Int64) (y : Int32) : Int64 := (x.toUInt64 >>> (y.toInt64.toUInt64 &&& Int64.toUInt64 63)).toInt64
def sd_lsl (x : Int64) (y : Int32) : Int64 := x <<< (y.toInt64 &&& 63)
def sd_lsr (x : Int64) (y : Int32) : Int64 := x >>> (y.toInt64 &&& 63)
def sd_cpOk (sp dp n : Int32) (n0 n1 : Nat) : Bool := decide (¬ sp < 0) && (decide (¬ dp < 0) && (decide (¬ n < 0) && (decide (sp.toNatClampNeg + n.toNatClampNeg ≤ n0) && decide (dp.toNatClampNeg + n.toNatClampNeg ≤ n1))))
theorem sd_cpOk_e {sp dp n : Int32} {n0 n1 : Nat} (h : sd_cpOk sp dp n n0 n1 = true) : ¬ sp < 0 ∧ ¬ dp < 0 ∧ ¬ n < 0 ∧ sp.toNatClampNeg + n.toNatClampNeg ≤ n0 ∧ dp.toNatClampNeg + n.toNatClampNeg ≤ n1 := by
  simp only [sd_cpOk, Bool.and_eq_true, decide_eq_true_eq] at h
  exact h
def sd_tsw (offs : Array Int) (lo hi dflt : Int) (x : Int) : Int := if x < lo ∨ hi < x then dflt else offs.getD (x - lo).toNat dflt
/-- the world as a picture of a memory; where it stands; what was written -/
def sd_CI (cl : List vw_C) (wd : sd_Me → va_W) (D : va_G) (A : Nat → Prop) (s : State) (H : Heap) (locs : List Loc) (μ : sd_Me) : Prop := va_P D cl (wd μ) H ∧ va_D A (wd μ) ∧ va_S A s.heap H locs
/-- facts of statics: they hold where nothing old was written -/
def sd_ZOK (Z : (Nat → Prop) → State → Heap → Prop) : Prop := ∀ (A B : Nat → Prop) (u U : State) (H H1 : Heap), u.vm.Alike U.vm → Z A u H → (∀ q, B q → A q) → (∀ a : Nat, a < H.size → ¬ A a → H1[a]? = H[a]?) → Z B U H1
def sd_pre (cl : List vw_C) (wd : sd_Me → va_W) (D : va_G) (tys : List (ClassId × FieldType)) (Z : (Nat → Prop) → State → Heap → Prop) (sz : Nat) (μ : sd_Me) : State → Prop := fun U => U.heap.size = sz ∧ va_P D cl (wd μ) U.heap ∧ va_K D cl tys U ∧ va_D (fun _ => True) (wd μ) ∧ Z (va_A (wd μ) sz) U U.heap
def sd_pst (cl : List vw_C) (wd : sd_Me → va_W) (D : va_G) (tys : List (ClassId × FieldType)) (A : Nat → Prop) : sd_Me → State → Prop := fun u t => va_P D cl (wd u) t.heap ∧ va_K D cl tys t ∧ va_D A (wd u)
def sd_CTi (l : Launch) (y : MethodName) (ws : List Cond) (rm : Room) (cl : List vw_C) (wd : sd_Me → va_W) (D : va_G) (tys : List (ClassId × FieldType)) (Z : (Nat → Prop) → State → Heap → Prop) (rt : FieldType) (av : List Value) (μ : sd_Me) (ru : Int32 × sd_Me) : Prop := ∀ sz : Nat, Met l y ws rm (va_Pc av (sd_pre cl wd D tys Z sz μ)) (va_Qi (fun (r : Int32) (u : sd_Me) => r = ru.1 ∧ u = ru.2 ∧ narrow rt (.int ru.1) = .int ru.1) (sd_pst cl wd D tys (va_A (wd μ) sz)) (va_A (wd μ) sz)) 0 0 (va_A (wd μ) sz)
def sd_CTl (l : Launch) (y : MethodName) (ws : List Cond) (rm : Room) (cl : List vw_C) (wd : sd_Me → va_W) (D : va_G) (tys : List (ClassId × FieldType)) (Z : (Nat → Prop) → State → Heap → Prop) (av : List Value) (μ : sd_Me) (ru : Int64 × sd_Me) : Prop := ∀ sz : Nat, Met l y ws rm (va_Pc av (sd_pre cl wd D tys Z sz μ)) (va_Ql (fun (r : Int64) (u : sd_Me) => r = ru.1 ∧ u = ru.2) (sd_pst cl wd D tys (va_A (wd μ) sz)) (va_A (wd μ) sz)) 0 0 (va_A (wd μ) sz)
def sd_CTv (l : Launch) (y : MethodName) (ws : List Cond) (rm : Room) (cl : List vw_C) (wd : sd_Me → va_W) (D : va_G) (tys : List (ClassId × FieldType)) (Z : (Nat → Prop) → State → Heap → Prop) (av : List Value) (μ : sd_Me) (ru : sd_Me) : Prop := ∀ sz : Nat, Met l y ws rm (va_Pc av (sd_pre cl wd D tys Z sz μ)) (va_Qv (fun (u : sd_Me) => u = ru) (sd_pst cl wd D tys (va_A (wd μ) sz)) (va_A (wd μ) sz)) 0 0 (va_A (wd μ) sz)
/-- what holds at every instruction of a method -/
def sd_Cx (p : Program) (s : State) (m : MethodId) (args : Array Value) (meth : Method) (c : Code) (cc : ByteArray) (own : String) (ws : List Cond) (nL : Nat) (ret : Option FieldType) (cl : List vw_C) (D : va_G) (tys : List (ClassId × FieldType)) (Z : (Nat → Prop) → State → Heap → Prop) (A : Nat → Prop) : Prop :=
  p.tables.exec = Jvm.exec ∧ c.code = cc ∧ c.maxLocals = nL ∧ s.vm.findClass own = some m.cls ∧ (∀ w ∈ ws, w.before args s = true) ∧ va_K D cl tys s ∧ Z A s s.heap ∧ (∀ q, s.heap.size ≤ q → A q) ∧ meth.sig.returnType = ret ∧ meth.locks = false
theorem sd_pre_blind {cl : List vw_C} {wd : sd_Me → va_W} {D : va_G} {tys : List (ClassId × FieldType)} {Z : (Nat → Prop) → State → Heap → Prop} (hZt : sd_ZOK Z) {av : List Value} {sz : Nat} {μ : sd_Me} : FrameBlind (va_Pc av (sd_pre cl wd D tys Z sz μ)) := by
  intro a U g mk q
  obtain ⟨q0, q1, qP, qK, qD, qZ⟩ := q
  exact ⟨q0, q1, qP, va_K.moved (u := U) (U := U.calling g mk a) (Vm.Alike.refl U.vm) qK, qD, hZt _ _ U (U.calling g mk a) U.heap U.heap (Vm.Alike.refl U.vm) qZ (fun _ h => h) (fun _ _ _ => rfl)⟩
theorem sd_free {cl : List vw_C} {wd : sd_Me → va_W} {D : va_G} {A : Nat → Prop} {s : State} {H : Heap} {locs : List Loc} {μ : sd_Me} (hA : ∀ q, s.heap.size ≤ q → A q) (hI : sd_CI cl wd D A s H locs μ) : ∀ q, va_A (wd μ) H.size q → A q := by
  intro q h
  rcases h with ⟨k, e, h⟩ | h
  · exact hI.2.1.2 k (q, e) h
  · exact hA q (Nat.le_trans hI.2.2.1 h)
theorem sd_ci_pre {cl : List vw_C} {wd : sd_Me → va_W} {D : va_G} {tys : List (ClassId × FieldType)} {Z : (Nat → Prop) → State → Heap → Prop} (hZt : sd_ZOK Z) {A : Nat → Prop} {s U : State} {H : Heap} {locs : List Loc} {μ : sd_Me} (hK : va_K D cl tys s) (hZ : Z A s s.heap) (hA : ∀ q, s.heap.size ≤ q → A q) (hI : sd_CI cl wd D A s H locs μ) (hU : U.heap = H) (hW : s.WarmedH U.vm) : sd_pre cl wd D tys Z H.size μ U := by
  refine ⟨by rw [hU], by rw [hU]; exact hI.1, va_K.moved hW.alike hK, hI.2.1.weaken (fun _ _ _ _ => trivial), ?_⟩
  exact hZt _ _ s U s.heap U.heap hW.alike hZ (sd_free hA hI) (fun a h1 h2 => by rw [hU]; exact hI.2.2.2.1 a h1 h2)
def sd_QI (below : List Frame) (cl : List vw_C) (wd : sd_Me → va_W) (D : va_G) (tys : List (ClassId × FieldType)) (rt : FieldType) (A : Nat → Prop) (args : Array Value) (s : State) (ru : Int32 × sd_Me) : State → Prop := MQ below (va_Qi (fun (r : Int32) (u : sd_Me) => r = ru.1 ∧ u = ru.2 ∧ narrow rt (.int ru.1) = .int ru.1) (sd_pst cl wd D tys A) A) args s 0 0 A
def sd_QL (below : List Frame) (cl : List vw_C) (wd : sd_Me → va_W) (D : va_G) (tys : List (ClassId × FieldType)) (A : Nat → Prop) (args : Array Value) (s : State) (ru : Int64 × sd_Me) : State → Prop := MQ below (va_Ql (fun (r : Int64) (u : sd_Me) => r = ru.1 ∧ u = ru.2) (sd_pst cl wd D tys A) A) args s 0 0 A
def sd_QV (below : List Frame) (cl : List vw_C) (wd : sd_Me → va_W) (D : va_G) (tys : List (ClassId × FieldType)) (A : Nat → Prop) (args : Array Value) (s : State) (ru : sd_Me) : State → Prop := MQ below (va_Qv (fun (u : sd_Me) => u = ru) (sd_pst cl wd D tys A) A) args s 0 0 A
theorem k_tbld {offs : Array Int} {lo hi dflt : Int} (keys : List Int32) (hk : ((List.range (hi - lo + 1).toNat).all (fun i => (offs.getD i dflt == dflt) || keys.any (fun k => k.toInt == lo + (i : Int)))) = true) {x : Int32} (hx : ∀ k ∈ keys, ¬ x = k) : sd_tsw offs lo hi dflt x.toInt = dflt := by
  unfold sd_tsw
  split
  · rfl
  · rename_i hr
    have h3 : (x.toInt - lo).toNat < (hi - lo + 1).toNat := by omega
    have h4 := List.all_eq_true.mp hk _ (List.mem_range.mpr h3)
    simp only [Bool.or_eq_true, beq_iff_eq, List.any_eq_true] at h4
    rcases h4 with h | ⟨k, hk1, hk2⟩
    · exact h
    · exact absurd (Int32.toInt_inj.mp (by omega)) (hx k hk1)
section SD
variable {p : Program} {l : Launch} {e : Env} {R : Room} {s : State} {m : MethodId} {args : Array Value} {below : List Frame} {meth : Method} {c : Code} {H : Heap} {locs : List Loc} {cells slots : Nat} {Q : State → Prop}
variable {cc : ByteArray} {pc : Nat} {ls : Array Slot} {rest : List Value} {cl : List vw_C} {wd : sd_Me → va_W} {D : va_G} {tys : List (ClassId × FieldType)} {Z : (Nat → Prop) → State → Heap → Prop} {A : Nat → Prop} {μ : sd_Me} {nL : Nat} {own : String} {Ts : List Cond} {ret : Option FieldType} {β : Type}
/-- a computed number gets a name -/
theorem k_li {v : Int32} {b : Int32 → Option β} {ru : β} (hf : sd_let v b = some ru) (k : ∀ x : Int32, b x = some ru → W p l e R s m args below meth c H locs cells slots Q (F0 m pc ls (.int x :: rest))) : W p l e R s m args below meth c H locs cells slots Q (F0 m pc ls (.int v :: rest)) := k v hf
theorem k_ll {v : Int64} {b : Int64 → Option β} {ru : β} (hf : sd_let v b = some ru) (k : ∀ x : Int64, b x = some ru → W p l e R s m args below meth c H locs cells slots Q (F0 m pc ls (.long x :: rest))) : W p l e R s m args below meth c H locs cells slots Q (F0 m pc ls (.long v :: rest)) := k v hf
/-- a memory gets a name -/
theorem k_lm {v : sd_Me} {b : sd_Me → Option β} {ru : β} (hf : sd_let v b = some ru) (hI : sd_CI cl wd D A s H locs v) : ∃ μ : sd_Me, sd_CI cl wd D A s H locs μ ∧ b μ = some ru := ⟨v, hI, hf⟩
/-- the entry -/
theorem k_enti {y : MethodName} {ws tb : List Cond} {rm : Room} {rt : FieldType} {av : List Value} {ru : Int32 × sd_Me} (maxL : Nat) (hpl : plainName y.cls = true) (hw : ws = Cond.code y cc maxL (some rt)   :: tb) (hav : (lg_sl av).length ≤ maxL)
    (body : ∀ (p : Program) (e : Env) (s : State) (m : MethodId) (below : List Frame) (meth : Method) (c : Code) (A : Nat → Prop) (ls : Array Slot), sd_Cx p s m av.toArray meth c cc y.cls tb maxL (some rt) cl D tys Z A → sd_CI cl wd D A s s.heap [] μ → lv_has ls maxL (lv_args 0 av) →
      W p l e rm s m av.toArray below meth c s.heap [] 0 0 (sd_QI below cl wd D tys rt A av.toArray s ru) (F0 m 0 ls [])) : sd_CTi l y ws rm cl wd D tys Z rt av μ ru := by
  intro sz
  refine Met.ofW (cc := cc) (maxL := maxL) (ret := some rt) hpl hw ?_
  intro p e s m args below meth c s₁ B hml hv
  obtain ⟨rfl, hsz, hP, hK, hD0, hZ⟩ := hv
  subst hsz
  have hts : ∀ w ∈ tb, w.before av.toArray s = true := fun w h => atoms_spec (ws := ws) B.pre w (by rw [hw]; exact List.mem_cons_of_mem _ h)
  rw [lg_entry_eq]
  exact body p e s m below meth c _ _ ⟨B.exec, B.bytes, hml, findClass_of_methodNamed B.named, hts, hK, hZ, fun q h => Or.inr h, B.returns, B.notSynchronized⟩ ⟨hP, hD0.self, va_S.rf⟩ (lv_entry av hav)
theorem k_entl {y : MethodName} {ws tb : List Cond} {rm : Room} {av : List Value} {ru : Int64 × sd_Me} (maxL : Nat) (hpl : plainName y.cls = true) (hw : ws = Cond.code y cc maxL (some .long)   :: tb) (hav : (lg_sl av).length ≤ maxL)
    (body : ∀ (p : Program) (e : Env) (s : State) (m : MethodId) (below : List Frame) (meth : Method) (c : Code) (A : Nat → Prop) (ls : Array Slot), sd_Cx p s m av.toArray meth c cc y.cls tb maxL (some .long) cl D tys Z A → sd_CI cl wd D A s s.heap [] μ → lv_has ls maxL (lv_args 0 av) →
      W p l e rm s m av.toArray below meth c s.heap [] 0 0 (sd_QL below cl wd D tys A av.toArray s ru) (F0 m 0 ls [])) : sd_CTl l y ws rm cl wd D tys Z av μ ru := by
  intro sz
  refine Met.ofW (cc := cc) (maxL := maxL) (ret := some .long) hpl hw ?_
  intro p e s m args below meth c s₁ B hml hv
  obtain ⟨rfl, hsz, hP, hK, hD0, hZ⟩ := hv
  subst hsz
  have hts : ∀ w ∈ tb, w.before av.toArray s = true := fun w h => atoms_spec (ws := ws) B.pre w (by rw [hw]; exact List.mem_cons_of_mem _ h)
  rw [lg_entry_eq]
  exact body p e s m below meth c _ _ ⟨B.exec, B.bytes, hml, findClass_of_methodNamed B.named, hts, hK, hZ, fun q h => Or.inr h, B.returns, B.notSynchronized⟩ ⟨hP, hD0.self, va_S.rf⟩ (lv_entry av hav)
theorem k_entv {y : MethodName} {ws tb : List Cond} {rm : Room} {av : List Value} {ru : sd_Me} (maxL : Nat) (hpl : plainName y.cls = true) (hw : ws = Cond.code y cc maxL none   :: tb) (hav : (lg_sl av).length ≤ maxL)
    (body : ∀ (p : Program) (e : Env) (s : State) (m : MethodId) (below : List Frame) (meth : Method) (c : Code) (A : Nat → Prop) (ls : Array Slot), sd_Cx p s m av.toArray meth c cc y.cls tb maxL none cl D tys Z A → sd_CI cl wd D A s s.heap [] μ → lv_has ls maxL (lv_args 0 av) →
      W p l e rm s m av.toArray below meth c s.heap [] 0 0 (sd_QV below cl wd D tys A av.toArray s ru) (F0 m 0 ls [])) : sd_CTv l y ws rm cl wd D tys Z av μ ru := by
  intro sz
  refine Met.ofW (cc := cc) (maxL := maxL) (ret := none) hpl hw ?_
  intro p e s m args below meth c s₁ B hml hv
  obtain ⟨rfl, hsz, hP, hK, hD0, hZ⟩ := hv
  subst hsz
  have hts : ∀ w ∈ tb, w.before av.toArray s = true := fun w h => atoms_spec (ws := ws) B.pre w (by rw [hw]; exact List.mem_cons_of_mem _ h)
  rw [lg_entry_eq]
  exact body p e s m below meth c _ _ ⟨B.exec, B.bytes, hml, findClass_of_methodNamed B.named, hts, hK, hZ, fun q h => Or.inr h, B.returns, B.notSynchronized⟩ ⟨hP, hD0.self, va_S.rf⟩ (lv_entry av hav)
/-- the ends -/
theorem k_reti {rt : FieldType} {v : Int32} {ru : Int32 × sd_Me} (X : sd_Cx p s m args meth c cc own Ts nL (some rt) cl D tys Z A) (hI : sd_CI cl wd D A s H locs μ) (hn : narrow rt (.int v) = .int v) (hf : some (v, μ) = some ru) (hdg : decode cc pc = .ok (.ireturn, 1)) :
    W p l e R s m args below meth c H locs 0 0 (sd_QI below cl wd D tys rt A args s ru) (F0 m pc ls [.int v]) := by
  cases hf
  obtain ⟨hx, hb, hml, hown, hts, hK, hZ, hA, hr, hlocks⟩ := X
  exact W.zret (v := v) (hlocks := hlocks) hx hb hr hn (fun t ht hW => ⟨⟨v, μ, rfl, ⟨rfl, rfl, hn⟩, by rw [ht]; exact hI.1, va_K.moved hW.alike hK, hI.2.1⟩, hI.2.2.F ht⟩) hI.2.2.2.2 hdg
theorem k_retl {v : Int64} {ru : Int64 × sd_Me} (X : sd_Cx p s m args meth c cc own Ts nL (some .long) cl D tys Z A) (hI : sd_CI cl wd D A s H locs μ) (hf : some (v, μ) = some ru) (hdg : decode cc pc = .ok (.lreturn, 1)) :
    W p l e R s m args below meth c H locs 0 0 (sd_QL below cl wd D tys A args s ru) (F0 m pc ls [.long v]) := by
  cases hf
  obtain ⟨hx, hb, hml, hown, hts, hK, hZ, hA, hr, hlocks⟩ := X
  exact W.lret (v := v) (hlocks := hlocks) hx hb hr (fun t ht hW => ⟨⟨v, μ, rfl, ⟨rfl, rfl⟩, by rw [ht]; exact hI.1, va_K.moved hW.alike hK, hI.2.1⟩, hI.2.2.F ht⟩) hI.2.2.2.2 hdg
theorem k_retv {ru : sd_Me} (X : sd_Cx p s m args meth c cc own Ts nL none cl D tys Z A) (hI : sd_CI cl wd D A s H locs μ) (hf : some μ = some ru) (hdg : decode cc pc = .ok (.return_, 1)) :
    W p l e R s m args below meth c H locs 0 0 (sd_QV below cl wd D tys A args s ru) (F0 m pc ls []) := by
  cases hf
  obtain ⟨hx, hb, hml, hown, hts, hK, hZ, hA, hr, hlocks⟩ := X
  exact W.vret (hlocks := hlocks) hx hb hr (fun t ht hW => ⟨⟨μ, rfl, rfl, by rw [ht]; exact hI.1, va_K.moved hW.alike hK, hI.2.1⟩, hI.2.2.F ht⟩) hI.2.2.2.2 hdg
/-- a field is written -/
theorem k_put {ref C : String} {T : u_T} {N ci index : Nat} {a : Nat} (hexec : p.tables.exec = Jvm.exec) (hb : c.code = cc) (hts : ∀ w ∈ Ts, w.before args s = true) (hin : ∀ w ∈ u_ws C T N, w ∈ Ts) (ty0 : Nat → FieldType) (hty : ∀ k, k < N → parseFieldDescriptor (T k).2.2.1 = some (ty0 k)) (hnm : ∀ a, a < N → ∀ b, b < N → a ≠ b → (T a).2.1 ≠ (T b).2.1) (hown : s.vm.findClass own = some m.cls) (hK : va_K D cl tys s) (hI : sd_CI cl wd D A s H locs μ) (q0 : Nat) {fs : List Value} (he : (wd μ)[q0]? = some (a, .inr (ci, fs))) (hc : cl[ci]? = some (C, T, N)) (k : Nat) (hk : k < N) (hlink : (Cond.fieldLink own index ref (T k).2.1 (T k).2.2.1).before args s = true) (hsame : ∀ x, s.fieldFound? (T k).1 (T k).2.1 (T k).2.2.1 = some x → s.fieldFound? ref (T k).2.1 (T k).2.2.1 = some x) (hfin : (T k).2.2.2 = false) {ty : FieldType} {v : Value} (hd : parseFieldDescriptor (T k).2.2.1 = some ty) (hn : narrow ty v = v) (hfit : fits ty v = true) (hl : k < fs.length) {μ' : sd_Me} (hset : (wd μ).set q0 (a, .inr (ci, fs.set k v)) = wd μ')
    (hdg : decode cc pc = .ok (.putfield index, 3)) (kk : ∀ (H1 : Heap) (locs1 : List Loc), sd_CI cl wd D A s H1 locs1 μ' → W p l e R s m args below meth c H1 locs1 cells slots Q (F0 m (pc + 3) ls rest)) : W p l e R s m args below meth c H locs cells slots Q (F0 m pc ls (v :: .ref a :: rest)) :=
  va_put hexec hb hts hin ty0 hty hnm hown hK hI.1 hI.2.1 hI.2.2 q0 he hc k hk hlink hsame hfin hd hn hfit hl hdg (fun H1 locs1 hP hD hS => kk H1 locs1 ⟨hset ▸ hP, hset ▸ hD, hS⟩)
/-- rows of ints -/
theorem k_iald {a : Nat} (hexec : p.tables.exec = Jvm.exec) (hb : c.code = cc) (hK : va_K D cl tys s) (hI : sd_CI cl wd D A s H locs μ) (q0 t0 : Nat) {cA : ClassId} {n : Nat} {f : Nat → Int32} (ha : (wd μ)[q0]? = some (a, .inl (cA, n, .inl f))) (ht : tys[t0]? = some (cA, .int)) {i : Int32} (hin : sd_ix i n = true) (hdg : decode cc pc = .ok (.iaload, 1))
    (kk : W p l e R s m args below meth c H locs cells slots Q (F0 m (pc + 1) ls (.int (f i.toNatClampNeg) :: rest))) : W p l e R s m args below meth c H locs cells slots Q (F0 m pc ls (.int i :: .ref a :: rest)) := va_iald hexec hb hK hI.1 q0 t0 ha ht (sd_ix_in hin) hdg kk
theorem k_iast {a : Nat} (hexec : p.tables.exec = Jvm.exec) (hb : c.code = cc) (hK : va_K D cl tys s) (hI : sd_CI cl wd D A s H locs μ) (q0 t0 : Nat) {cA : ClassId} {n : Nat} {f : Nat → Int32} (ha : (wd μ)[q0]? = some (a, .inl (cA, n, .inl f))) (ht : tys[t0]? = some (cA, .int)) {i x : Int32} {μ' : sd_Me} (hset : (wd μ).set q0 (a, .inl (cA, n, .inl (upd f i.toNatClampNeg x))) = wd μ') (hin : sd_ix i n = true) (hdg : decode cc pc = .ok (.iastore, 1))
    (kk : ∀ (H1 : Heap) (locs1 : List Loc), sd_CI cl wd D A s H1 locs1 μ' → W p l e R s m args below meth c H1 locs1 cells slots Q (F0 m (pc + 1) ls rest)) : W p l e R s m args below meth c H locs cells slots Q (F0 m pc ls (.int x :: .int i :: .ref a :: rest)) :=
  va_iast hexec hb hK hI.1 hI.2.1 hI.2.2 q0 t0 ha ht (sd_ix_in hin) hdg (fun H1 locs1 hP hD hS => kk H1 locs1 ⟨hset ▸ hP, hset ▸ hD, hS⟩)
/-- calls within a system -/
theorem k_callV {y : MethodName} {bytes : ByteArray} {maxL n index : Nat} {ws : List Cond} {rm : Room} {rt : FieldType} {C : String} {b : Addr} {As st0 : List Value} {ru : Int32 × sd_Me} {T : u_T} {N ci : Nat} {fs : List Value} (hZt : sd_ZOK Z) (X : sd_Cx p s m args meth c cc own Ts nL ret cl D tys Z A) (hI : sd_CI cl wd D A s H locs μ) (hC : sd_CTi l y ws rm cl wd D tys Z rt (.ref b :: As) μ ru) (cw : CallW R s args own C index y bytes maxL (some rt) ws rm 0 0 n) (q0 : Nat) (hc : cl[ci]? = some (C, T, N)) (he : (wd μ)[q0]? = some (b, .inr (ci, fs)))
    (hn : As.length = n) (hl : ls.size = nL) (hst : st0 = As.reverse ++ .ref b :: rest) (hW : (rest.map fun v => v.category).sum ≤ 8) (hdg : decode cc pc = .ok (.invokevirtual index, 3)) (hfit : cells ≤ R.cells ∧ slots ≤ R.slots)
    (kk : ∀ (H1 : Heap) (locs1 : List Loc), narrow rt (.int ru.1) = .int ru.1 → sd_CI cl wd D A s H1 locs1 ru.2 → W p l e R s m args below meth c H1 locs1 cells slots Q (F0 m (pc + 3) ls (.int ru.1 :: rest))) : W p l e R s m args below meth c H locs cells slots Q (F0 m pc ls st0) := by
  obtain ⟨hx, hb, hml, hown, hts, hK, hZ, hA, hr, hlocks⟩ := X
  have hFc := sd_free hA hI
  refine va_calli (A1 := va_A (wd μ) H.size) (va_runV (As := As) (rest := rest) ⟨hx, hb, hml, hown, hts⟩ (hC H.size) cw ⟨sd_pre_blind hZt, va_recv hK hI.1 hc he, fun U hU hW2 => ⟨rfl, sd_ci_pre hZt hK hZ hA hI hU hW2⟩⟩ rfl hn hl hst (lv_room hW) hdg hfit) hI.2.2 (fun q _ h => hFc q h) hFc (fun r1 u t H1 locs1 ht hvm hw hB hz1 hk1 hS1 => ?_)
  obtain ⟨rfl, rfl, hna⟩ := hw
  obtain ⟨hP1, hK1, hD1⟩ := hB
  rw [ht] at hP1
  exact kk H1 locs1 hna ⟨hP1, hD1.weaken (fun k q _ h => hFc q.1 h), hS1⟩
theorem k_callVl {y : MethodName} {bytes : ByteArray} {maxL n index : Nat} {ws : List Cond} {rm : Room} {C : String} {b : Addr} {As st0 : List Value} {ru : Int64 × sd_Me} {T : u_T} {N ci : Nat} {fs : List Value} (hZt : sd_ZOK Z) (X : sd_Cx p s m args meth c cc own Ts nL ret cl D tys Z A) (hI : sd_CI cl wd D A s H locs μ) (hC : sd_CTl l y ws rm cl wd D tys Z (.ref b :: As) μ ru) (cw : CallW R s args own C index y bytes maxL (some .long) ws rm 0 0 n) (q0 : Nat) (hc : cl[ci]? = some (C, T, N)) (he : (wd μ)[q0]? = some (b, .inr (ci, fs)))
    (hn : As.length = n) (hl : ls.size = nL) (hst : st0 = As.reverse ++ .ref b :: rest) (hW : (rest.map fun v => v.category).sum ≤ 8) (hdg : decode cc pc = .ok (.invokevirtual index, 3)) (hfit : cells ≤ R.cells ∧ slots ≤ R.slots)
    (kk : ∀ (H1 : Heap) (locs1 : List Loc), sd_CI cl wd D A s H1 locs1 ru.2 → W p l e R s m args below meth c H1 locs1 cells slots Q (F0 m (pc + 3) ls (.long ru.1 :: rest))) : W p l e R s m args below meth c H locs cells slots Q (F0 m pc ls st0) := by
  obtain ⟨hx, hb, hml, hown, hts, hK, hZ, hA, hr, hlocks⟩ := X
  have hFc := sd_free hA hI
  refine va_calll (A1 := va_A (wd μ) H.size) (va_runV (As := As) (rest := rest) ⟨hx, hb, hml, hown, hts⟩ (hC H.size) cw ⟨sd_pre_blind hZt, va_recv hK hI.1 hc he, fun U hU hW2 => ⟨rfl, sd_ci_pre hZt hK hZ hA hI hU hW2⟩⟩ rfl hn hl hst (lv_room hW) hdg hfit) hI.2.2 (fun q _ h => hFc q h) hFc (fun r1 u t H1 locs1 ht hvm hw hB hz1 hk1 hS1 => ?_)
  obtain ⟨rfl, rfl⟩ := hw
  obtain ⟨hP1, hK1, hD1⟩ := hB
  rw [ht] at hP1
  exact kk H1 locs1 ⟨hP1, hD1.weaken (fun k q _ h => hFc q.1 h), hS1⟩
theorem k_callVv {y : MethodName} {bytes : ByteArray} {maxL n index : Nat} {ws : List Cond} {rm : Room} {C : String} {b : Addr} {As st0 : List Value} {ru : sd_Me} {T : u_T} {N ci : Nat} {fs : List Value} (hZt : sd_ZOK Z) (X : sd_Cx p s m args meth c cc own Ts nL ret cl D tys Z A) (hI : sd_CI cl wd D A s H locs μ) (hC : sd_CTv l y ws rm cl wd D tys Z (.ref b :: As) μ ru) (cw : CallW R s args own C index y bytes maxL none ws rm 0 0 n) (q0 : Nat) (hc : cl[ci]? = some (C, T, N)) (he : (wd μ)[q0]? = some (b, .inr (ci, fs)))
    (hn : As.length = n) (hl : ls.size = nL) (hst : st0 = As.reverse ++ .ref b :: rest) (hW : (rest.map fun v => v.category).sum ≤ 8) (hdg : decode cc pc = .ok (.invokevirtual index, 3)) (hfit : cells ≤ R.cells ∧ slots ≤ R.slots)
    (kk : ∀ (H1 : Heap) (locs1 : List Loc), sd_CI cl wd D A s H1 locs1 ru → W p l e R s m args below meth c H1 locs1 cells slots Q (F0 m (pc + 3) ls rest)) : W p l e R s m args below meth c H locs cells slots Q (F0 m pc ls st0) := by
  obtain ⟨hx, hb, hml, hown, hts, hK, hZ, hA, hr, hlocks⟩ := X
  have hFc := sd_free hA hI
  refine va_callv (A1 := va_A (wd μ) H.size) (va_runV (As := As) (rest := rest) ⟨hx, hb, hml, hown, hts⟩ (hC H.size) cw ⟨sd_pre_blind hZt, va_recv hK hI.1 hc he, fun U hU hW2 => ⟨rfl, sd_ci_pre hZt hK hZ hA hI hU hW2⟩⟩ rfl hn hl hst (lv_room hW) hdg hfit) hI.2.2 (fun q _ h => hFc q h) hFc (fun u t H1 locs1 ht hvm hw hB hz1 hk1 hS1 => ?_)
  subst hw
  obtain ⟨hP1, hK1, hD1⟩ := hB
  rw [ht] at hP1
  exact kk H1 locs1 ⟨hP1, hD1.weaken (fun k q _ h => hFc q.1 h), hS1⟩
theorem k_callS {y : MethodName} {bytes : ByteArray} {maxL n index : Nat} {ws : List Cond} {rm : Room} {rt : FieldType} {As st0 : List Value} {ru : Int32 × sd_Me} (hZt : sd_ZOK Z) (X : sd_Cx p s m args meth c cc own Ts nL ret cl D tys Z A) (hI : sd_CI cl wd D A s H locs μ) (hC : sd_CTi l y ws rm cl wd D tys Z rt As μ ru) (cw : CallB R s args own index y bytes maxL (some rt) ws rm 0 0 n ∧ (Cond.static y).before args s = true)
    (hn : As.length = n) (hl : ls.size = nL) (hst : st0 = As.reverse ++ rest) (hW : (rest.map fun v => v.category).sum ≤ 8) (hdg : decode cc pc = .ok (.invokestatic index, 3)) (hfit : cells ≤ R.cells ∧ slots ≤ R.slots)
    (kk : ∀ (H1 : Heap) (locs1 : List Loc), narrow rt (.int ru.1) = .int ru.1 → sd_CI cl wd D A s H1 locs1 ru.2 → W p l e R s m args below meth c H1 locs1 cells slots Q (F0 m (pc + 3) ls (.int ru.1 :: rest))) : W p l e R s m args below meth c H locs cells slots Q (F0 m pc ls st0) := by
  obtain ⟨hx, hb, hml, hown, hts, hK, hZ, hA, hr, hlocks⟩ := X
  have hFc := sd_free hA hI
  refine va_calli (A1 := va_A (wd μ) H.size) (va_runS (As := As) (rest := rest) ⟨hx, hb, hml, hown, hts⟩ (hC H.size) cw ⟨sd_pre_blind hZt, fun U hU hW2 => ⟨rfl, sd_ci_pre hZt hK hZ hA hI hU hW2⟩⟩ rfl hn hl hst (lv_room hW) hdg hfit) hI.2.2 (fun q _ h => hFc q h) hFc (fun r1 u t H1 locs1 ht hvm hw hB hz1 hk1 hS1 => ?_)
  obtain ⟨rfl, rfl, hna⟩ := hw
  obtain ⟨hP1, hK1, hD1⟩ := hB
  rw [ht] at hP1
  exact kk H1 locs1 hna ⟨hP1, hD1.weaken (fun k q _ h => hFc q.1 h), hS1⟩
theorem k_callSl {y : MethodName} {bytes : ByteArray} {maxL n index : Nat} {ws : List Cond} {rm : Room} {As st0 : List Value} {ru : Int64 × sd_Me} (hZt : sd_ZOK Z) (X : sd_Cx p s m args meth c cc own Ts nL ret cl D tys Z A) (hI : sd_CI cl wd D A s H locs μ) (hC : sd_CTl l y ws rm cl wd D tys Z As μ ru) (cw : CallB R s args own index y bytes maxL (some .long) ws rm 0 0 n ∧ (Cond.static y).before args s = true)
    (hn : As.length = n) (hl : ls.size = nL) (hst : st0 = As.reverse ++ rest) (hW : (rest.map fun v => v.category).sum ≤ 8) (hdg : decode cc pc = .ok (.invokestatic index, 3)) (hfit : cells ≤ R.cells ∧ slots ≤ R.slots)
    (kk : ∀ (H1 : Heap) (locs1 : List Loc), sd_CI cl wd D A s H1 locs1 ru.2 → W p l e R s m args below meth c H1 locs1 cells slots Q (F0 m (pc + 3) ls (.long ru.1 :: rest))) : W p l e R s m args below meth c H locs cells slots Q (F0 m pc ls st0) := by
  obtain ⟨hx, hb, hml, hown, hts, hK, hZ, hA, hr, hlocks⟩ := X
  have hFc := sd_free hA hI
  refine va_calll (A1 := va_A (wd μ) H.size) (va_runS (As := As) (rest := rest) ⟨hx, hb, hml, hown, hts⟩ (hC H.size) cw ⟨sd_pre_blind hZt, fun U hU hW2 => ⟨rfl, sd_ci_pre hZt hK hZ hA hI hU hW2⟩⟩ rfl hn hl hst (lv_room hW) hdg hfit) hI.2.2 (fun q _ h => hFc q h) hFc (fun r1 u t H1 locs1 ht hvm hw hB hz1 hk1 hS1 => ?_)
  obtain ⟨rfl, rfl⟩ := hw
  obtain ⟨hP1, hK1, hD1⟩ := hB
  rw [ht] at hP1
  exact kk H1 locs1 ⟨hP1, hD1.weaken (fun k q _ h => hFc q.1 h), hS1⟩
theorem k_callSv {y : MethodName} {bytes : ByteArray} {maxL n index : Nat} {ws : List Cond} {rm : Room} {As st0 : List Value} {ru : sd_Me} (hZt : sd_ZOK Z) (X : sd_Cx p s m args meth c cc own Ts nL ret cl D tys Z A) (hI : sd_CI cl wd D A s H locs μ) (hC : sd_CTv l y ws rm cl wd D tys Z As μ ru) (cw : CallB R s args own index y bytes maxL none ws rm 0 0 n ∧ (Cond.static y).before args s = true)
    (hn : As.length = n) (hl : ls.size = nL) (hst : st0 = As.reverse ++ rest) (hW : (rest.map fun v => v.category).sum ≤ 8) (hdg : decode cc pc = .ok (.invokestatic index, 3)) (hfit : cells ≤ R.cells ∧ slots ≤ R.slots)
    (kk : ∀ (H1 : Heap) (locs1 : List Loc), sd_CI cl wd D A s H1 locs1 ru → W p l e R s m args below meth c H1 locs1 cells slots Q (F0 m (pc + 3) ls rest)) : W p l e R s m args below meth c H locs cells slots Q (F0 m pc ls st0) := by
  obtain ⟨hx, hb, hml, hown, hts, hK, hZ, hA, hr, hlocks⟩ := X
  have hFc := sd_free hA hI
  refine va_callv (A1 := va_A (wd μ) H.size) (va_runS (As := As) (rest := rest) ⟨hx, hb, hml, hown, hts⟩ (hC H.size) cw ⟨sd_pre_blind hZt, fun U hU hW2 => ⟨rfl, sd_ci_pre hZt hK hZ hA hI hU hW2⟩⟩ rfl hn hl hst (lv_room hW) hdg hfit) hI.2.2 (fun q _ h => hFc q h) hFc (fun u t H1 locs1 ht hvm hw hB hz1 hk1 hS1 => ?_)
  subst hw
  obtain ⟨hP1, hK1, hD1⟩ := hB
  rw [ht] at hP1
  exact kk H1 locs1 ⟨hP1, hD1.weaken (fun k q _ h => hFc q.1 h), hS1⟩
theorem k_tbl {dflt lo hi : Int} {offs : Array Int} {len : Nat} {x : Int32} {off : Int} {tgt : Nat} (hexec : p.tables.exec = Jvm.exec) (hb : c.code = cc) (hdg : decode cc pc = .ok (.tableswitch dflt lo hi offs, len)) (hsz : offs.size = (hi - lo + 1).toNat) (h : sd_tsw offs lo hi dflt x.toInt = off) (ht : (pc : Int) + off = (tgt : Int))
    (k : W p l e R s m args below meth c H locs cells slots Q (F0 m tgt ls rest)) : W p l e R s m args below meth c H locs cells slots Q (F0 m pc ls (.int x :: rest)) := by
  by_cases hr : x.toInt < lo ∨ hi < x.toInt
  · rw [sd_tsw, if_pos hr] at h
    exact lv_tableOut hexec hb hdg hr (by rw [h]; exact ht) k
  · rw [sd_tsw, if_neg hr] at h
    have h3 : (x.toInt - lo).toNat < offs.size := by omega
    refine lv_tableIn (off := off) hexec hb hdg (fun z => hr (Or.inl z)) (fun z => hr (Or.inr z)) ?_ ht k
    rw [Array.getD_eq_getD_getElem?, Array.getElem?_eq_getElem h3] at h
    rw [Array.getElem?_eq_getElem h3]
    exact congrArg some h
theorem k_copy {index : Nat} {a a0 : Nat} (hexec : p.tables.exec = Jvm.exec) (hb : c.code = cc) (hml : c.maxLocals = ls.size) (hown : s.vm.findClass own = some m.cls) (hlink : (Cond.methodLink own index arraycopyName).before args s = true) (hnat : (Cond.native arraycopyName).before args s = true) (hstat : (Cond.static arraycopyName).before args s = true) (hini : (Cond.initialized "java/lang/System").before args s = true)
    (hK : va_K D cl tys s) (hI : sd_CI cl wd D A s H locs μ) (q0 q1 t0 t1 : Nat) {c0 c1 : ClassId} {n0 n1 : Nat} {f g : Nat → Int32} (ha0 : (wd μ)[q0]? = some (a0, .inl (c0, n0, .inl f))) (ha1 : (wd μ)[q1]? = some (a, .inl (c1, n1, .inl g))) (ht0 : tys[t0]? = some (c0, .int)) (ht1 : tys[t1]? = some (c1, .int))
    {sp dp n : Int32} {μ' : sd_Me} (hset : (wd μ).set q1 (a, .inl (c1, n1, .inl (va_cpy f g sp.toNatClampNeg dp.toNatClampNeg n.toNatClampNeg))) = wd μ') (hg : sd_cpOk sp dp n n0 n1 = true)
    (hframes : 1 ≤ R.frames) (hlocals : (rest.map fun v => v.category).sum + (nativeFrameWords "java/lang/System" "arraycopy" 5 + 11) ≤ R.locals) (hdg : decode cc pc = .ok (.invokestatic index, 3))
    (kk : ∀ (H1 : Heap) (locs1 : List Loc), sd_CI cl wd D A s H1 locs1 μ' → W p l e R s m args below meth c H1 locs1 cells slots Q (F0 m (pc + 3) ls rest)) : W p l e R s m args below meth c H locs cells slots Q (F0 m pc ls (.int n :: .int dp :: .ref a :: .int sp :: .ref a0 :: rest)) := by
  obtain ⟨h1, h2, h3, h4, h5⟩ := sd_cpOk_e hg
  exact va_copyi hexec hb hml hown hlink hnat hstat hini hK hI.1 hI.2.1 hI.2.2 q0 q1 t0 t1 ha0 ha1 ht0 ht1 rfl h1 h2 h3 h4 h5 (fun _ _ => rfl) hframes hlocals hdg (fun H1 locs1 hP hD hS => kk H1 locs1 ⟨hset ▸ hP, hset ▸ hD, hS⟩)
theorem k_callU {x y : MethodName} {bytes : ByteArray} {maxL n index : Nat} {ws : List Cond} {rm : Room} {rt : FieldType} {C owner : String} {b : Addr} {As st0 : List Value} {ru : Int32 × sd_Me} {T : u_T} {N ci : Nat} {fs : List Value} (hZt : sd_ZOK Z) (X : sd_Cx p s m args meth c cc own Ts nL ret cl D tys Z A) (hI : sd_CI cl wd D A s H locs μ) (hC : sd_CTi l y ws rm cl wd D tys Z rt (.ref b :: As) μ ru) (cw : va_CU R s args own C owner index x y bytes maxL (some rt) ws rm 0 0 n) (q0 : Nat) (hc : cl[ci]? = some (C, T, N)) (he : (wd μ)[q0]? = some (b, .inr (ci, fs)))
    (hn : As.length = n) (hl : ls.size = nL) (hst : st0 = As.reverse ++ .ref b :: rest) (hW : (rest.map fun v => v.category).sum ≤ 8) (hdg : decode cc pc = .ok (.invokevirtual index, 3)) (hfit : cells ≤ R.cells ∧ slots ≤ R.slots)
    (kk : ∀ (H1 : Heap) (locs1 : List Loc), narrow rt (.int ru.1) = .int ru.1 → sd_CI cl wd D A s H1 locs1 ru.2 → W p l e R s m args below meth c H1 locs1 cells slots Q (F0 m (pc + 3) ls (.int ru.1 :: rest))) : W p l e R s m args below meth c H locs cells slots Q (F0 m pc ls st0) := by
  obtain ⟨hx, hb, hml, hown, hts, hK, hZ, hA, hr, hlocks⟩ := X
  have hFc := sd_free hA hI
  refine va_calli (A1 := va_A (wd μ) H.size) (va_runU (As := As) (rest := rest) ⟨hx, hb, hml, hown, hts⟩ (hC H.size) cw ⟨sd_pre_blind hZt, va_recv hK hI.1 hc he, fun U hU hW2 => ⟨rfl, sd_ci_pre hZt hK hZ hA hI hU hW2⟩⟩ rfl hn hl hst (lv_room hW) hdg hfit) hI.2.2 (fun q _ h => hFc q h) hFc (fun r1 u t H1 locs1 ht hvm hw hB hz1 hk1 hS1 => ?_)
  obtain ⟨rfl, rfl, hna⟩ := hw
  obtain ⟨hP1, hK1, hD1⟩ := hB
  rw [ht] at hP1
  exact kk H1 locs1 hna ⟨hP1, hD1.weaken (fun k q _ h => hFc q.1 h), hS1⟩
theorem k_callUl {x y : MethodName} {bytes : ByteArray} {maxL n index : Nat} {ws : List Cond} {rm : Room} {C owner : String} {b : Addr} {As st0 : List Value} {ru : Int64 × sd_Me} {T : u_T} {N ci : Nat} {fs : List Value} (hZt : sd_ZOK Z) (X : sd_Cx p s m args meth c cc own Ts nL ret cl D tys Z A) (hI : sd_CI cl wd D A s H locs μ) (hC : sd_CTl l y ws rm cl wd D tys Z (.ref b :: As) μ ru) (cw : va_CU R s args own C owner index x y bytes maxL (some .long) ws rm 0 0 n) (q0 : Nat) (hc : cl[ci]? = some (C, T, N)) (he : (wd μ)[q0]? = some (b, .inr (ci, fs)))
    (hn : As.length = n) (hl : ls.size = nL) (hst : st0 = As.reverse ++ .ref b :: rest) (hW : (rest.map fun v => v.category).sum ≤ 8) (hdg : decode cc pc = .ok (.invokevirtual index, 3)) (hfit : cells ≤ R.cells ∧ slots ≤ R.slots)
    (kk : ∀ (H1 : Heap) (locs1 : List Loc), sd_CI cl wd D A s H1 locs1 ru.2 → W p l e R s m args below meth c H1 locs1 cells slots Q (F0 m (pc + 3) ls (.long ru.1 :: rest))) : W p l e R s m args below meth c H locs cells slots Q (F0 m pc ls st0) := by
  obtain ⟨hx, hb, hml, hown, hts, hK, hZ, hA, hr, hlocks⟩ := X
  have hFc := sd_free hA hI
  refine va_calll (A1 := va_A (wd μ) H.size) (va_runU (As := As) (rest := rest) ⟨hx, hb, hml, hown, hts⟩ (hC H.size) cw ⟨sd_pre_blind hZt, va_recv hK hI.1 hc he, fun U hU hW2 => ⟨rfl, sd_ci_pre hZt hK hZ hA hI hU hW2⟩⟩ rfl hn hl hst (lv_room hW) hdg hfit) hI.2.2 (fun q _ h => hFc q h) hFc (fun r1 u t H1 locs1 ht hvm hw hB hz1 hk1 hS1 => ?_)
  obtain ⟨rfl, rfl⟩ := hw
  obtain ⟨hP1, hK1, hD1⟩ := hB
  rw [ht] at hP1
  exact kk H1 locs1 ⟨hP1, hD1.weaken (fun k q _ h => hFc q.1 h), hS1⟩
theorem k_callUv {x y : MethodName} {bytes : ByteArray} {maxL n index : Nat} {ws : List Cond} {rm : Room} {C owner : String} {b : Addr} {As st0 : List Value} {ru : sd_Me} {T : u_T} {N ci : Nat} {fs : List Value} (hZt : sd_ZOK Z) (X : sd_Cx p s m args meth c cc own Ts nL ret cl D tys Z A) (hI : sd_CI cl wd D A s H locs μ) (hC : sd_CTv l y ws rm cl wd D tys Z (.ref b :: As) μ ru) (cw : va_CU R s args own C owner index x y bytes maxL none ws rm 0 0 n) (q0 : Nat) (hc : cl[ci]? = some (C, T, N)) (he : (wd μ)[q0]? = some (b, .inr (ci, fs)))
    (hn : As.length = n) (hl : ls.size = nL) (hst : st0 = As.reverse ++ .ref b :: rest) (hW : (rest.map fun v => v.category).sum ≤ 8) (hdg : decode cc pc = .ok (.invokevirtual index, 3)) (hfit : cells ≤ R.cells ∧ slots ≤ R.slots)
    (kk : ∀ (H1 : Heap) (locs1 : List Loc), sd_CI cl wd D A s H1 locs1 ru → W p l e R s m args below meth c H1 locs1 cells slots Q (F0 m (pc + 3) ls rest)) : W p l e R s m args below meth c H locs cells slots Q (F0 m pc ls st0) := by
  obtain ⟨hx, hb, hml, hown, hts, hK, hZ, hA, hr, hlocks⟩ := X
  have hFc := sd_free hA hI
  refine va_callv (A1 := va_A (wd μ) H.size) (va_runU (As := As) (rest := rest) ⟨hx, hb, hml, hown, hts⟩ (hC H.size) cw ⟨sd_pre_blind hZt, va_recv hK hI.1 hc he, fun U hU hW2 => ⟨rfl, sd_ci_pre hZt hK hZ hA hI hU hW2⟩⟩ rfl hn hl hst (lv_room hW) hdg hfit) hI.2.2 (fun q _ h => hFc q h) hFc (fun u t H1 locs1 ht hvm hw hB hz1 hk1 hS1 => ?_)
  subst hw
  obtain ⟨hP1, hK1, hD1⟩ := hB
  rw [ht] at hP1
  exact kk H1 locs1 ⟨hP1, hD1.weaken (fun k q _ h => hFc q.1 h), hS1⟩
theorem k_copyt {index : Nat} {a b0 : Nat} (hexec : p.tables.exec = Jvm.exec) (hb : c.code = cc) (hml : c.maxLocals = ls.size) (hown : s.vm.findClass own = some m.cls) (hlink : (Cond.methodLink own index arraycopyName).before args s = true) (hnat : (Cond.native arraycopyName).before args s = true) (hstat : (Cond.static arraycopyName).before args s = true) (hini : (Cond.initialized "java/lang/System").before args s = true)
    (hK : va_K D cl tys s) (hI : sd_CI cl wd D A s H locs μ) {n0 : Nat} {f : Nat → Int32} (hX : va_T .int b0 n0 (fun j => .int (f j)) A s s.heap) (q1 t1 : Nat) {c1 : ClassId} {n1 : Nat} {g : Nat → Int32} (ha1 : (wd μ)[q1]? = some (a, .inl (c1, n1, .inl g))) (ht1 : tys[t1]? = some (c1, .int))
    {sp dp n : Int32} {μ' : sd_Me} (hset : (wd μ).set q1 (a, .inl (c1, n1, .inl (va_cpy f g sp.toNatClampNeg dp.toNatClampNeg n.toNatClampNeg))) = wd μ') (hg : sd_cpOk sp dp n n0 n1 = true)
    (hframes : 1 ≤ R.frames) (hlocals : (rest.map fun v => v.category).sum + (nativeFrameWords "java/lang/System" "arraycopy" 5 + 11) ≤ R.locals) (hdg : decode cc pc = .ok (.invokestatic index, 3))
    (kk : ∀ (H1 : Heap) (locs1 : List Loc), sd_CI cl wd D A s H1 locs1 μ' → W p l e R s m args below meth c H1 locs1 cells slots Q (F0 m (pc + 3) ls rest)) : W p l e R s m args below meth c H locs cells slots Q (F0 m pc ls (.int n :: .int dp :: .ref a :: .int sp :: .ref b0 :: rest)) := by
  obtain ⟨h1, h2, h3, h4, h5⟩ := sd_cpOk_e hg
  obtain ⟨hP, hD, hS⟩ := hI
  have nn : ∀ z : Int32, ¬ z < 0 → z.toInt = (z.toNatClampNeg : Int) := by
    intro z hz
    have hz0 : (0 : Int) ≤ z.toInt := by
      have := Int32.not_lt.mp hz
      simpa using Int32.le_iff_toInt_le.mp this
    show z.toInt = ((z.toInt.toNat : Nat) : Int)
    omega
  intro T hT X
  obtain ⟨scr, hs1, hs2, hs3, hs4, -, hs5, hs7⟩ := hX
  have hc0 : H[b0]? = some scr := by rw [hS.2.1 b0 (Array.getElem?_eq_some_iff.mp hs1).1 hs7]; exact hs1
  have hc1 : H[a]? = some (vp_cell c1 (n1, .inl g)) := hP q1 _ ha1
  obtain ⟨hs6, k0, hk0, cm0, hkk0⟩ := hs2
  obtain ⟨-, k1, hk1, cm1, hkk1⟩ := (hK.2 t1 _ ht1).1 n1 (fun j => .int (g j))
  obtain ⟨vm', X', step⟩ := X.arraycopy hexec hown hlink hnat hstat hini (src := b0) (dst := a) (cs := scr) (cd := vp_cell c1 (n1, .inl g)) (srcPos := sp) (destPos := dp) (n := n) (by rw [hT]; exact hc0) (by rw [hT]; exact hc1)
    hs6 (fun _ h => by cases h) hs3 (fun h => by cases h) hk0 hk1 hkk0 hkk1 (by simp [refKind]) h1 h2 h3
    (by rw [nn sp h1, nn n h3]; omega)
    (by rw [nn dp h2, nn n h3]; show ¬ _ > ((arrV c1 n1 (fun j => .int (g j))).slots.size : Int); rw [arrV_size]; omega)
    (fun vm₁ _ i hi => by
      have e : scr.slots.getD (sp.toNatClampNeg + i) .null = .int (f (sp.toNatClampNeg + i)) := by
        rw [Array.getD_eq_getD_getElem?, hs5 _ (by omega)]
        rfl
      refine ⟨?_, ?_⟩
      · rw [e]
        rfl
      · rw [e]
        exact trivial)
    (g := F0 m pc ls (.int n :: .int dp :: .ref a :: .int sp :: .ref b0 :: rest)) rfl (by rw [hml]) (rest := rest) rfl (by rw [hb]; exact hdg) hframes (by show 2 * 0 + _ + _ ≤ _; omega)
  have e1 : copied scr (vp_cell c1 (n1, .inl g)) sp dp n = vp_cell c1 (n1, .inl (va_cpy f g sp.toNatClampNeg dp.toNatClampNeg n.toNatClampNeg)) := va_copiedX (fun z => .int z) scr c1 f g hs5 h4
  rw [e1] at X' step
  have hl : a < H.size := (Array.getElem?_eq_some_iff.mp hc1).1
  have hheap : ((T.setVm vm').setCell a (vp_cell c1 (n1, .inl (va_cpy f g sp.toNatClampNeg dp.toNatClampNeg n.toNatClampNeg)))).heap = H.setIfInBounds a (vp_cell c1 (n1, .inl (va_cpy f g sp.toNatClampNeg dp.toNatClampNeg n.toNatClampNeg))) := by rw [← hT]; rfl
  have oq : ∀ q : Nat, q ≠ a → (H.setIfInBounds a (vp_cell c1 (n1, .inl (va_cpy f g sp.toNatClampNeg dp.toNatClampNeg n.toNatClampNeg))))[q]? = H[q]? := fun q hq => by simp [Array.getElem?_setIfInBounds, Ne.symm hq]
  have hP1 := hP.set hD ha1 (e := .inl (c1, n1, .inl (va_cpy f g sp.toNatClampNeg dp.toNatClampNeg n.toNatClampNeg))) (show (H.setIfInBounds a _)[a]? = some _ by simp [Array.getElem?_setIfInBounds, hl]) oq
  have hD1 := hD.set ha1 (e := .inl (c1, n1, .inl (va_cpy f g sp.toNatClampNeg dp.toNatClampNeg n.toNatClampNeg)))
  obtain ⟨t, a1, b1⟩ := kk _ _ ⟨hset ▸ hP1, hset ▸ hD1, ⟨by simp; exact hS.1, fun q g1 g2 => by
      rw [oq q (fun e => g2 (by rw [e]; exact hD.2 q1 _ ha1))]
      exact hS.2.1 q g1 g2, fun q hq => by
      rcases List.mem_append.mp hq with h | h
      · exact hS.2.2 q h
      · obtain ⟨z, -, hz⟩ := List.mem_map.mp h
        rw [← hz]
        exact hD.2 q1 _ ha1⟩⟩ _ hheap X'
  exact ⟨t, step t a1, b1⟩
end SD
/-! two systems side by side: one is called, the other stays -/
def sd_CF (cl : List vw_C) (w1 w2 : va_W) (D : va_G) (A : Nat → Prop) (s : State) (H : Heap) (locs : List Loc) : Prop := va_P D cl w1 H ∧ va_P D cl w2 H ∧ va_D A w1 ∧ va_D A w2 ∧ (∀ (i j : Nat) (p q : Nat × va_E), w1[i]? = some p → w2[j]? = some q → p.1 ≠ q.1) ∧ va_S A s.heap H locs
theorem sd_CF_swap {cl : List vw_C} {w1 w2 : va_W} {D : va_G} {A : Nat → Prop} {s : State} {H : Heap} {locs : List Loc} (h : sd_CF cl w1 w2 D A s H locs) : sd_CF cl w2 w1 D A s H locs := ⟨h.2.1, h.1, h.2.2.2.1, h.2.2.1, fun i j p q hi hj e => h.2.2.2.2.1 j i q p hj hi e.symm, h.2.2.2.2.2⟩
theorem sd_CF_CI {cl : List vw_C} {wd : sd_Me → va_W} {w2 : va_W} {D : va_G} {A : Nat → Prop} {s : State} {H : Heap} {locs : List Loc} {μ : sd_Me} (h : sd_CF cl (wd μ) w2 D A s H locs) : sd_CI cl wd D A s H locs μ := ⟨h.1, h.2.2.1, h.2.2.2.2.2⟩
theorem sd_CF_back {cl : List vw_C} {wd : sd_Me → va_W} {w2 : va_W} {D : va_G} {A : Nat → Prop} {s : State} {H H1 : Heap} {locs locs1 : List Loc} {μ μ1 : sd_Me} (hA : ∀ q, s.heap.size ≤ q → A q) (h : sd_CF cl (wd μ) w2 D A s H locs) (hk : ∀ q : Nat, q < H.size → ¬ va_A (wd μ) H.size q → H1[q]? = H[q]?) (hP1 : va_P D cl (wd μ1) H1) (hD1 : va_D (va_A (wd μ) H.size) (wd μ1)) (hS1 : va_S A s.heap H1 locs1) : sd_CF cl (wd μ1) w2 D A s H1 locs1 := by
  have hFc := sd_free hA (sd_CF_CI h)
  obtain ⟨hP, hP2, hD, hD2, hx, hS⟩ := h
  have out : ∀ (j : Nat) (q : Nat × va_E), w2[j]? = some q → q.1 < H.size ∧ ¬ va_A (wd μ) H.size q.1 := by
    intro j q hq
    have hl := (hP2 j q hq).lt
    refine ⟨hl, fun z => ?_⟩
    rcases z with ⟨k, e, z⟩ | z
    · exact hx k j (q.1, e) q z hq rfl
    · omega
  refine ⟨hP1, hP2.kept (fun k q hq => hk q.1 (out k q hq).1 (out k q hq).2), hD1.weaken (fun k q _ z => hFc q.1 z), hD2, fun i j p q hi hj e => ?_, hS1⟩
  exact (out j q hj).2 (by rw [← e]; exact hD1.2 i p hi)
section SDL
variable {p : Program} {l : Launch} {e : Env} {R : Room} {s : State} {m : MethodId} {args : Array Value} {below : List Frame} {meth : Method} {c : Code} {H : Heap} {locs : List Loc} {cells slots : Nat} {Q : State → Prop}
variable {cc : ByteArray} {pc : Nat} {ls : Array Slot} {rest : List Value} {cl : List vw_C} {wd : sd_Me → va_W} {w2 : va_W} {D : va_G} {tys : List (ClassId × FieldType)} {Z : (Nat → Prop) → State → Heap → Prop} {A : Nat → Prop} {μ : sd_Me} {nL : Nat} {own : String} {Ts : List Cond}
theorem k_lawV {y : MethodName} {bytes : ByteArray} {maxL n index : Nat} {ws : List Cond} {rm : Room} {rt : FieldType} {C : String} {b : Addr} {As st0 : List Value} {ru : Int32 × sd_Me} {T : u_T} {N ci : Nat} {fs : List Value} (hZt : sd_ZOK Z) (X : CallFix p m c cc nL s args Ts own) (hK : va_K D cl tys s) (hZ : Z A s s.heap) (hA : ∀ q, s.heap.size ≤ q → A q) (hI : sd_CF cl (wd μ) w2 D A s H locs) (hC : sd_CTi l y ws rm cl wd D tys Z rt (.ref b :: As) μ ru) (cw : CallW R s args own C index y bytes maxL (some rt) ws rm 0 0 n) (q0 : Nat) (hc : cl[ci]? = some (C, T, N)) (he : (wd μ)[q0]? = some (b, .inr (ci, fs)))
    (hn : As.length = n) (hl : ls.size = nL) (hst : st0 = As.reverse ++ .ref b :: rest) (hW : (rest.map fun v => v.category).sum ≤ 8) (hdg : decode cc pc = .ok (.invokevirtual index, 3)) (hfit : cells ≤ R.cells ∧ slots ≤ R.slots)
    (kk : ∀ (H1 : Heap) (locs1 : List Loc), narrow rt (.int ru.1) = .int ru.1 → sd_CF cl (wd ru.2) w2 D A s H1 locs1 → W p l e R s m args below meth c H1 locs1 cells slots Q (F0 m (pc + 3) ls (.int ru.1 :: rest))) : W p l e R s m args below meth c H locs cells slots Q (F0 m pc ls st0) := by
  have hI1 := sd_CF_CI hI
  have hFc := sd_free hA hI1
  refine va_calli (A1 := va_A (wd μ) H.size) (va_runV (As := As) (rest := rest) X (hC H.size) cw ⟨sd_pre_blind hZt, va_recv hK hI1.1 hc he, fun U hU hW2 => ⟨rfl, sd_ci_pre hZt hK hZ hA hI1 hU hW2⟩⟩ rfl hn hl hst (lv_room hW) hdg hfit) hI1.2.2 (fun q _ h => hFc q h) hFc (fun r1 u t H1 locs1 ht hvm hw hB hz1 hk1 hS1 => ?_)
  obtain ⟨rfl, rfl, hna⟩ := hw
  obtain ⟨hP1, hK1, hD1⟩ := hB
  rw [ht] at hP1
  exact kk H1 locs1 hna (sd_CF_back hA hI hk1 hP1 hD1 hS1)
theorem k_lawVv {y : MethodName} {bytes : ByteArray} {maxL n index : Nat} {ws : List Cond} {rm : Room} {C : String} {b : Addr} {As st0 : List Value} {ru : sd_Me} {T : u_T} {N ci : Nat} {fs : List Value} (hZt : sd_ZOK Z) (X : CallFix p m c cc nL s args Ts own) (hK : va_K D cl tys s) (hZ : Z A s s.heap) (hA : ∀ q, s.heap.size ≤ q → A q) (hI : sd_CF cl (wd μ) w2 D A s H locs) (hC : sd_CTv l y ws rm cl wd D tys Z (.ref b :: As) μ ru) (cw : CallW R s args own C index y bytes maxL none ws rm 0 0 n) (q0 : Nat) (hc : cl[ci]? = some (C, T, N)) (he : (wd μ)[q0]? = some (b, .inr (ci, fs)))
    (hn : As.length = n) (hl : ls.size = nL) (hst : st0 = As.reverse ++ .ref b :: rest) (hW : (rest.map fun v => v.category).sum ≤ 8) (hdg : decode cc pc = .ok (.invokevirtual index, 3)) (hfit : cells ≤ R.cells ∧ slots ≤ R.slots)
    (kk : ∀ (H1 : Heap) (locs1 : List Loc), sd_CF cl (wd ru) w2 D A s H1 locs1 → W p l e R s m args below meth c H1 locs1 cells slots Q (F0 m (pc + 3) ls rest)) : W p l e R s m args below meth c H locs cells slots Q (F0 m pc ls st0) := by
  have hI1 := sd_CF_CI hI
  have hFc := sd_free hA hI1
  refine va_callv (A1 := va_A (wd μ) H.size) (va_runV (As := As) (rest := rest) X (hC H.size) cw ⟨sd_pre_blind hZt, va_recv hK hI1.1 hc he, fun U hU hW2 => ⟨rfl, sd_ci_pre hZt hK hZ hA hI1 hU hW2⟩⟩ rfl hn hl hst (lv_room hW) hdg hfit) hI1.2.2 (fun q _ h => hFc q h) hFc (fun u t H1 locs1 ht hvm hw hB hz1 hk1 hS1 => ?_)
  subst hw
  obtain ⟨hP1, hK1, hD1⟩ := hB
  rw [ht] at hP1
  exact kk H1 locs1 (sd_CF_back hA hI hk1 hP1 hD1 hS1)
end SDL
theorem sd_oneA {D : va_G} {cl : List vw_C} {tys : List (ClassId × FieldType)} {s : State} (hK : va_K D cl tys s) {i j : Nat} {x y : ClassId} (hi : tys[i]? = some (x, .int)) (hj : tys[j]? = some (y, .int)) : x = y := by
  have h1 : s.vm.findClass ("[" ++ FieldType.int.toString) = some x := (hK.2 i _ hi).2
  have h2 : s.vm.findClass ("[" ++ FieldType.int.toString) = some y := (hK.2 j _ hj).2
  exact Option.some.inj (h1.symm.trans h2)
