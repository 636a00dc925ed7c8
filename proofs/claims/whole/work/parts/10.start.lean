theorem sd_CF_of {cl : List vw_C} {w1 w2 : va_W} {D : va_G} {A : Nat → Prop} {s : State} {H : Heap} {locs : List Loc} (hP : va_P D cl (w1 ++ w2) H) (hD : va_D A (w1 ++ w2)) (hS : va_S A s.heap H locs) : sd_CF cl w1 w2 D A s H locs := by
  have l1 : ∀ (i : Nat) (p : Nat × va_E), w1[i]? = some p → (w1 ++ w2)[i]? = some p := by
    intro i p h
    rw [List.getElem?_append_left (List.getElem?_eq_some_iff.mp h).1]
    exact h
  have l2 : ∀ (i : Nat) (p : Nat × va_E), w2[i]? = some p → (w1 ++ w2)[w1.length + i]? = some p := by
    intro i p h
    rw [List.getElem?_append_right (by omega), Nat.add_sub_cancel_left]
    exact h
  refine ⟨fun k q h => hP k q (l1 k q h), fun k q h => hP _ q (l2 k q h), ⟨fun i j p q hi hj e => hD.1 i j p q (l1 i p hi) (l1 j q hj) e, fun k q h => hD.2 k q (l1 k q h)⟩, ⟨fun i j p q hi hj e => ?_, fun k q h => hD.2 _ q (l2 k q h)⟩, fun i j p q hi hj e => ?_, hS⟩
  · have := hD.1 _ _ p q (l2 i p hi) (l2 j q hj) e
    omega
  · have h1 := hD.1 _ _ p q (l1 i p hi) (l2 j q hj) e
    have h2 := (List.getElem?_eq_some_iff.mp hi).1
    omega
/-- the memories at the start -/
def sd_X0 : sd_Me := (fun c => match c with
  | 0 => fun j => if j = 3 then -1 else 0
  | 5 => sd_ord 64
  | 9 => fun j => if j = 2 then 1 else 0
  | _ => fun _ => 0, fun _ => 0)
def sd_M0 : sd_Me := (fun c => match c with
  | 0 => fun j => if j = 8 then -1 else 0
  | _ => fun _ => 0, fun _ => 0)
set_option maxHeartbeats 4000000 in
set_option maxRecDepth 100000 in
theorem law_start {Rel : sd_Me → sd_Me → Prop} (hsim : sd_Sim Rel) (hR0 : Rel sd_X0 sd_M0) {p : Program} {e : Env} {s : State} {m : MethodId} {below : List Frame} {meth : Method} {c : Code} (l : Launch) {b L : Nat} {xs : Nat → Int32} (hL : L ≤ 2048) (C0 : lw_At p s m meth c b L xs) : W p l e room_1 s m #[Value.ref b] below meth c s.heap [] 0 0 (lw_Z below #[Value.ref b] s) (entryFrame m ([Value.ref b] : List Value).toArray 4) := by
  obtain ⟨hx, hb, hr, hml, hown, hts0, hX, hbl, hlocks, hgv⟩ := id C0
  have hts := sx_hts hts0
  have hA : ∀ q : Nat, s.heap.size ≤ q → (fun q : Nat => s.heap.size ≤ q) q := fun _ h => h
  obtain ⟨tX, hZX⟩ := law_ZX (A := fun q : Nat => s.heap.size ≤ q) hts0 (law_hgv hgv) (fun a h => Nat.not_le.mpr h)
  obtain ⟨tM, hZM⟩ := law_ZM (A := fun q : Nat => s.heap.size ≤ q) hts0 (law_hgv hgv) (fun a h => Nat.not_le.mpr h)
  obtain ⟨c0, iS0, hKn0⟩ := u_known (C := "ScriptDesk") (T := T_Desk) (N := 10) (n := 10) hts iw_Desk (hts _ tw_16)
  obtain ⟨c1, iS1, hKn1⟩ := u_known (C := "ScriptDesk$Elements") (T := T_Elements) (N := 5) (n := 5) hts iw_Elements (hts _ tw_24)
  obtain ⟨c2, iS2, hKn2⟩ := u_known (C := "ScriptDesk$Tally") (T := T_Tally) (N := 1) (n := 1) hts iw_Tally (hts _ tw_50)
  obtain ⟨c3, iS3, hKn3⟩ := u_known (C := "ScriptDesk$Flow") (T := T_Flow) (N := 2) (n := 2) hts iw_Flow (hts _ tw_61)
  obtain ⟨c4, iS4, hKn4⟩ := u_known (C := "ScriptDesk$Signatures") (T := T_Signatures) (N := 2) (n := 2) hts iw_Signatures (hts _ tw_74)
  obtain ⟨c5, iS5, hKn5⟩ := u_known (C := "ScriptDesk$Sha256") (T := T_Sha256) (N := 5) (n := 5) hts iw_Sha256 (hts _ tw_89)
  obtain ⟨c6, iS6, hKn6⟩ := u_known (C := "ScriptDesk$Ripemd160") (T := T_Ripemd160) (N := 7) (n := 7) hts iw_Ripemd160 (hts _ tw_122)
  obtain ⟨c7, iS7, hKn7⟩ := u_known (C := "ScriptDeskModel") (T := T_Model) (N := 18) (n := 18) hts iw_Model (hts _ tw_526)
  obtain ⟨dC, dI, hKc⟩ : ∃ (dC : Nat → ClassId) (dI : Nat → Nat → Nat), ∀ (k : Nat) (q : vw_C), vwCl[k]? = some q → u_Kn s q.1 q.2.1 q.2.2 (dC k) (dI k) := by
    refine ⟨fun k => match k with
      | 0 => c0
      | 1 => c1
      | 2 => c2
      | 3 => c3
      | 4 => c4
      | 5 => c5
      | 6 => c6
      | _ => c7, fun k => match k with
      | 0 => iS0
      | 1 => iS1
      | 2 => iS2
      | 3 => iS3
      | 4 => iS4
      | 5 => iS5
      | 6 => iS6
      | _ => iS7, ?_⟩
    intro k q hq
    match k, hq with
    | 0, hq => cases hq; exact hKn0
    | 1, hq => cases hq; exact hKn1
    | 2, hq => cases hq; exact hKn2
    | 3, hq => cases hq; exact hKn3
    | 4, hq => cases hq; exact hKn4
    | 5, hq => cases hq; exact hKn5
    | 6, hq => cases hq; exact hKn6
    | 7, hq => cases hq; exact hKn7
    | k + 8, hq => simp [vwCl] at hq
  have hS : va_S (fun q : Nat => s.heap.size ≤ q) s.heap s.heap [] := va_S.rf
  have hK : va_K (dC, dI) vwCl [] s := ⟨hKc, fun k q h => by simp at h⟩
  have hP : va_P (dC, dI) vwCl [] s.heap := fun k q h => by simp at h
  have hD : va_D (fun q : Nat => s.heap.size ≤ q) [] := ⟨fun i j p q h => by simp at h, fun k q h => by simp at h⟩
  have hl := lv_entry ([.ref b]) (n := 4) (Nat.le_of_ble_eq_true rfl)
  rw [lg_entry_eq]
  generalize (lg_sl ([.ref b]) ++ List.replicate (4 - (lg_sl ([.ref b])).length) Slot.unset).toArray = ls at hl ⊢
  have hl : lv_has ls 4 [(0, .ref b)] := hl
  refine va_new (ci := 0) (fs := [.null, .int 0, .int 0, .int 0, .null, .null, .null, .null, .null, .null]) (C := "ScriptDesk") (T := T_Desk) (N := 10) hx hb hts iw_Desk t_Desk t_Desk_ok hown (hts _ tw_15) (hts _ tw_16) (hts _ tw_1) hK hP hD hS hA rfl (fun j hj => by rcases (show j = 0 ∨ j = 1 ∨ j = 2 ∨ j = 3 ∨ j = 4 ∨ j = 5 ∨ j = 6 ∨ j = 7 ∨ j = 8 ∨ j = 9 by omega) with rfl | rfl | rfl | rfl | rfl | rfl | rfl | rfl | rfl | rfl <;> rfl) (Nat.le_of_ble_eq_true rfl) (Nat.le_of_ble_eq_true rfl) d_Law_law_0 (fun qx H hP hD hS => ?_)
  have hP : va_P (dC, dI) vwCl [(qx, .inr (0, [.null, .int 0, .int 0, .int 0, .null, .null, .null, .null, .null, .null]))] H := hP
  have hD : va_D (fun q : Nat => s.heap.size ≤ q) [(qx, .inr (0, [.null, .int 0, .int 0, .int 0, .null, .null, .null, .null, .null, .null]))] := hD
  refine W.widen (k := 1) (n := 10) (by omega) (by omega) ?_
  refine lv_dup hx hb d_Law_law_3 rfl ?_
  have hPc := hP.sub (ws' := [(qx, .inr (0, [.null, .int 0, .int 0, .int 0, .null, .null, .null, .null, .null, .null]))]) [0] rfl
  have hDc := hD.sub (ws' := [(qx, .inr (0, [.null, .int 0, .int 0, .int 0, .null, .null, .null, .null, .null, .null]))]) [0] (by decide) rfl
  have hKc2 := hK.sub (tys' := []) [] rfl
  have hFc := va_free (wc := [(qx, .inr (0, [.null, .int 0, .int 0, .int 0, .null, .null, .null, .null, .null, .null]))]) hD hS hA [0] rfl
  have hN0 : va_Nw (Jvm.Cond.methodLinkNest "ScriptDesk" (32 : Nat) ({ cls := "ScriptDesk$Tally", name := "<init>", desc := "()V" } : Jvm.MethodName) "ScriptDesk") s := va_Nw.of rfl (hts0 _ (List.mem_append_right _ (List.mem_of_getElem? (i := 51) (by decide +kernel))))
  have hN1 : va_Nw (Jvm.Cond.methodLinkNest "ScriptDesk" (39 : Nat) ({ cls := "ScriptDesk$Flow", name := "<init>", desc := "()V" } : Jvm.MethodName) "ScriptDesk") s := va_Nw.of rfl (hts0 _ (List.mem_append_right _ (List.mem_of_getElem? (i := 62) (by decide +kernel))))
  have hN2 : va_Nw (Jvm.Cond.methodLinkNest "ScriptDesk" (46 : Nat) ({ cls := "ScriptDesk$Signatures", name := "<init>", desc := "()V" } : Jvm.MethodName) "ScriptDesk") s := va_Nw.of rfl (hts0 _ (List.mem_append_right _ (List.mem_of_getElem? (i := 75) (by decide +kernel))))
  refine va_callv (va_runI (As := []) (rest := [.ref qx]) ⟨hx, hb, hml, hown, hts⟩ (ct_Desk_Desk l dC dI qx H.size) (cwI 0 hts (gd_code tw_19) rfl rfl rfl (hts _ tw_1) (hts _ tw_17) (hts _ tw_18) rfl (by decide +kernel) ⟨Nat.le_of_ble_eq_true rfl, Nat.le_of_ble_eq_true rfl⟩) ⟨fun a U g mk q => by obtain ⟨q0, q1, qP, qK, qD, qN0, qN1, qN2⟩ := q; exact ⟨q0, q1, qP, va_K.moved (u := U) (U := U.calling g mk a) (Vm.Alike.refl U.vm) qK, qD, va_Nw.same rfl rfl qN0, va_Nw.same rfl rfl qN1, va_Nw.same rfl rfl qN2⟩, fun U hU hW => ⟨rfl, by rw [hU], by rw [hU]; exact hPc, va_K.moved hW.alike hKc2, hDc.weaken (fun _ _ _ _ => trivial), va_Nw.warmM hW hN0, va_Nw.warmM hW hN1, va_Nw.warmM hW hN2⟩⟩ rfl rfl hl.1 rfl (lv_room (Nat.le_of_ble_eq_true rfl)) d_Law_law_4 ⟨Nat.le_of_ble_eq_true rfl, Nat.le_of_ble_eq_true rfl⟩) hS (fun q _ h => hFc q h) hFc (fun u t H1 locs ht hvm hw hB hz1 hk1 hS => ?_)
  obtain ⟨q8_qx, q29_qx, q8_33_qx, q16_33_qx, q24_33_qx, q40_qx, q51_qx, q62_qx, q73_qx, q8_6_77_qx, q20_6_77_qx, q27_6_77_qx, q36_6_77_qx, q84_qx, q8_5_88_qx, q20_5_88_qx, q27_5_88_qx, q36_5_88_qx, q10_88_qx, q17_88_qx, cA, hP1, hK1, hD1⟩ := hB
  rw [ht] at hP1
  have hK1 := va_K.moved hvm.symm hK1
  obtain ⟨hP, hD⟩ := va_join (wr := []) (w1 := [(qx, .inr (0, [.ref q8_qx, .int (0 : Int32), .int (0 : Int32), .int (-1 : Int32), .ref q29_qx, .ref q40_qx, .ref q51_qx, .ref q62_qx, .ref q73_qx, .ref q84_qx])), (q8_qx, .inl (cA, 200, .inl (fun _ => 0))), (q29_qx, .inr (1, [.ref q8_33_qx, .ref q16_33_qx, .ref q24_33_qx, .int 0, .int 0])), (q8_33_qx, .inl (cA, 7680, .inl (fun _ => 0))), (q16_33_qx, .inl (cA, 64, .inl (fun _ => 0))), (q24_33_qx, .inl (cA, 64, .inl (sd_ord 64))), (q40_qx, .inr (2, [.int 0])), (q51_qx, .inr (3, [.int 0, .int 0])), (q62_qx, .inr (4, [.int 0, .int 0])), (q73_qx, .inr (5, [.ref q8_6_77_qx, .ref q36_6_77_qx, .int (1 : Int32), .ref q20_6_77_qx, .ref q27_6_77_qx])), (q8_6_77_qx, .inl (cA, 192, .inl (fun _ => 0))), (q20_6_77_qx, .inl (cA, 64, .inl (fun _ => 0))), (q27_6_77_qx, .inl (cA, 8, .inl (fun _ => 0))), (q36_6_77_qx, .inl (cA, 32, .inl (fun _ => 0))), (q84_qx, .inr (6, [.ref q8_5_88_qx, .ref q36_5_88_qx, .int (0 : Int32), .ref q20_5_88_qx, .ref q27_5_88_qx, .ref q10_88_qx, .ref q17_88_qx])), (q8_5_88_qx, .inl (cA, 192, .inl (fun _ => 0))), (q20_5_88_qx, .inl (cA, 16, .inl (fun _ => 0))), (q27_5_88_qx, .inl (cA, 5, .inl (fun _ => 0))), (q36_5_88_qx, .inl (cA, 20, .inl (fun _ => 0))), (q10_88_qx, .inl (cA, 5, .inl (fun _ => 0))), (q17_88_qx, .inl (cA, 5, .inl (fun _ => 0)))]) hP hD [0] [] rfl rfl (by decide) (by decide) hk1 hFc hP1 hD1
  have hK : va_K (dC, dI) vwCl [(cA, .int)] s := hK1.sub [0] rfl
  generalize H1 = H at hP hS ⊢
  have hP : va_P (dC, dI) vwCl [(qx, .inr (0, [.ref q8_qx, .int (0 : Int32), .int (0 : Int32), .int (-1 : Int32), .ref q29_qx, .ref q40_qx, .ref q51_qx, .ref q62_qx, .ref q73_qx, .ref q84_qx])), (q8_qx, .inl (cA, 200, .inl (fun _ => 0))), (q29_qx, .inr (1, [.ref q8_33_qx, .ref q16_33_qx, .ref q24_33_qx, .int 0, .int 0])), (q8_33_qx, .inl (cA, 7680, .inl (fun _ => 0))), (q16_33_qx, .inl (cA, 64, .inl (fun _ => 0))), (q24_33_qx, .inl (cA, 64, .inl (sd_ord 64))), (q40_qx, .inr (2, [.int 0])), (q51_qx, .inr (3, [.int 0, .int 0])), (q62_qx, .inr (4, [.int 0, .int 0])), (q73_qx, .inr (5, [.ref q8_6_77_qx, .ref q36_6_77_qx, .int (1 : Int32), .ref q20_6_77_qx, .ref q27_6_77_qx])), (q8_6_77_qx, .inl (cA, 192, .inl (fun _ => 0))), (q20_6_77_qx, .inl (cA, 64, .inl (fun _ => 0))), (q27_6_77_qx, .inl (cA, 8, .inl (fun _ => 0))), (q36_6_77_qx, .inl (cA, 32, .inl (fun _ => 0))), (q84_qx, .inr (6, [.ref q8_5_88_qx, .ref q36_5_88_qx, .int (0 : Int32), .ref q20_5_88_qx, .ref q27_5_88_qx, .ref q10_88_qx, .ref q17_88_qx])), (q8_5_88_qx, .inl (cA, 192, .inl (fun _ => 0))), (q20_5_88_qx, .inl (cA, 16, .inl (fun _ => 0))), (q27_5_88_qx, .inl (cA, 5, .inl (fun _ => 0))), (q36_5_88_qx, .inl (cA, 20, .inl (fun _ => 0))), (q10_88_qx, .inl (cA, 5, .inl (fun _ => 0))), (q17_88_qx, .inl (cA, 5, .inl (fun _ => 0)))] H := hP
  have hD : va_D (fun q : Nat => s.heap.size ≤ q) [(qx, .inr (0, [.ref q8_qx, .int (0 : Int32), .int (0 : Int32), .int (-1 : Int32), .ref q29_qx, .ref q40_qx, .ref q51_qx, .ref q62_qx, .ref q73_qx, .ref q84_qx])), (q8_qx, .inl (cA, 200, .inl (fun _ => 0))), (q29_qx, .inr (1, [.ref q8_33_qx, .ref q16_33_qx, .ref q24_33_qx, .int 0, .int 0])), (q8_33_qx, .inl (cA, 7680, .inl (fun _ => 0))), (q16_33_qx, .inl (cA, 64, .inl (fun _ => 0))), (q24_33_qx, .inl (cA, 64, .inl (sd_ord 64))), (q40_qx, .inr (2, [.int 0])), (q51_qx, .inr (3, [.int 0, .int 0])), (q62_qx, .inr (4, [.int 0, .int 0])), (q73_qx, .inr (5, [.ref q8_6_77_qx, .ref q36_6_77_qx, .int (1 : Int32), .ref q20_6_77_qx, .ref q27_6_77_qx])), (q8_6_77_qx, .inl (cA, 192, .inl (fun _ => 0))), (q20_6_77_qx, .inl (cA, 64, .inl (fun _ => 0))), (q27_6_77_qx, .inl (cA, 8, .inl (fun _ => 0))), (q36_6_77_qx, .inl (cA, 32, .inl (fun _ => 0))), (q84_qx, .inr (6, [.ref q8_5_88_qx, .ref q36_5_88_qx, .int (0 : Int32), .ref q20_5_88_qx, .ref q27_5_88_qx, .ref q10_88_qx, .ref q17_88_qx])), (q8_5_88_qx, .inl (cA, 192, .inl (fun _ => 0))), (q20_5_88_qx, .inl (cA, 16, .inl (fun _ => 0))), (q27_5_88_qx, .inl (cA, 5, .inl (fun _ => 0))), (q36_5_88_qx, .inl (cA, 20, .inl (fun _ => 0))), (q10_88_qx, .inl (cA, 5, .inl (fun _ => 0))), (q17_88_qx, .inl (cA, 5, .inl (fun _ => 0)))] := hD
  refine W.widen (k := 21) (n := 8579) (by omega) (by omega) ?_
  refine lv_astore_n (lv' := [(1, .ref qx), (0, .ref b)]) hx hb d_Law_law_7 rfl hl (by decide) rfl (fun ls hl => ?_)
  refine va_new (ci := 7) (fs := [.null, .null, .int 0, .int 0, .null, .int 0, .long 0, .int 0, .int 0, .int 0, .int 0, .int 0, .null, .long 0, .null, .null, .null, .null]) (C := "ScriptDeskModel") (T := T_Model) (N := 18) hx hb hts iw_Model t_Model t_Model_ok hown (hts _ tw_525) (hts _ tw_526) (hts _ tw_9) hK hP hD hS hA rfl (fun j hj => by rcases (show j = 0 ∨ j = 1 ∨ j = 2 ∨ j = 3 ∨ j = 4 ∨ j = 5 ∨ j = 6 ∨ j = 7 ∨ j = 8 ∨ j = 9 ∨ j = 10 ∨ j = 11 ∨ j = 12 ∨ j = 13 ∨ j = 14 ∨ j = 15 ∨ j = 16 ∨ j = 17 by omega) with rfl | rfl | rfl | rfl | rfl | rfl | rfl | rfl | rfl | rfl | rfl | rfl | rfl | rfl | rfl | rfl | rfl | rfl <;> rfl) (Nat.le_of_ble_eq_true rfl) (Nat.le_of_ble_eq_true rfl) d_Law_law_8 (fun qm H hP hD hS => ?_)
  have hP : va_P (dC, dI) vwCl [(qx, .inr (0, [.ref q8_qx, .int (0 : Int32), .int (0 : Int32), .int (-1 : Int32), .ref q29_qx, .ref q40_qx, .ref q51_qx, .ref q62_qx, .ref q73_qx, .ref q84_qx])), (q8_qx, .inl (cA, 200, .inl (fun _ => 0))), (q29_qx, .inr (1, [.ref q8_33_qx, .ref q16_33_qx, .ref q24_33_qx, .int 0, .int 0])), (q8_33_qx, .inl (cA, 7680, .inl (fun _ => 0))), (q16_33_qx, .inl (cA, 64, .inl (fun _ => 0))), (q24_33_qx, .inl (cA, 64, .inl (sd_ord 64))), (q40_qx, .inr (2, [.int 0])), (q51_qx, .inr (3, [.int 0, .int 0])), (q62_qx, .inr (4, [.int 0, .int 0])), (q73_qx, .inr (5, [.ref q8_6_77_qx, .ref q36_6_77_qx, .int (1 : Int32), .ref q20_6_77_qx, .ref q27_6_77_qx])), (q8_6_77_qx, .inl (cA, 192, .inl (fun _ => 0))), (q20_6_77_qx, .inl (cA, 64, .inl (fun _ => 0))), (q27_6_77_qx, .inl (cA, 8, .inl (fun _ => 0))), (q36_6_77_qx, .inl (cA, 32, .inl (fun _ => 0))), (q84_qx, .inr (6, [.ref q8_5_88_qx, .ref q36_5_88_qx, .int (0 : Int32), .ref q20_5_88_qx, .ref q27_5_88_qx, .ref q10_88_qx, .ref q17_88_qx])), (q8_5_88_qx, .inl (cA, 192, .inl (fun _ => 0))), (q20_5_88_qx, .inl (cA, 16, .inl (fun _ => 0))), (q27_5_88_qx, .inl (cA, 5, .inl (fun _ => 0))), (q36_5_88_qx, .inl (cA, 20, .inl (fun _ => 0))), (q10_88_qx, .inl (cA, 5, .inl (fun _ => 0))), (q17_88_qx, .inl (cA, 5, .inl (fun _ => 0))), (qm, .inr (7, [.null, .null, .int 0, .int 0, .null, .int 0, .long 0, .int 0, .int 0, .int 0, .int 0, .int 0, .null, .long 0, .null, .null, .null, .null]))] H := hP
  have hD : va_D (fun q : Nat => s.heap.size ≤ q) [(qx, .inr (0, [.ref q8_qx, .int (0 : Int32), .int (0 : Int32), .int (-1 : Int32), .ref q29_qx, .ref q40_qx, .ref q51_qx, .ref q62_qx, .ref q73_qx, .ref q84_qx])), (q8_qx, .inl (cA, 200, .inl (fun _ => 0))), (q29_qx, .inr (1, [.ref q8_33_qx, .ref q16_33_qx, .ref q24_33_qx, .int 0, .int 0])), (q8_33_qx, .inl (cA, 7680, .inl (fun _ => 0))), (q16_33_qx, .inl (cA, 64, .inl (fun _ => 0))), (q24_33_qx, .inl (cA, 64, .inl (sd_ord 64))), (q40_qx, .inr (2, [.int 0])), (q51_qx, .inr (3, [.int 0, .int 0])), (q62_qx, .inr (4, [.int 0, .int 0])), (q73_qx, .inr (5, [.ref q8_6_77_qx, .ref q36_6_77_qx, .int (1 : Int32), .ref q20_6_77_qx, .ref q27_6_77_qx])), (q8_6_77_qx, .inl (cA, 192, .inl (fun _ => 0))), (q20_6_77_qx, .inl (cA, 64, .inl (fun _ => 0))), (q27_6_77_qx, .inl (cA, 8, .inl (fun _ => 0))), (q36_6_77_qx, .inl (cA, 32, .inl (fun _ => 0))), (q84_qx, .inr (6, [.ref q8_5_88_qx, .ref q36_5_88_qx, .int (0 : Int32), .ref q20_5_88_qx, .ref q27_5_88_qx, .ref q10_88_qx, .ref q17_88_qx])), (q8_5_88_qx, .inl (cA, 192, .inl (fun _ => 0))), (q20_5_88_qx, .inl (cA, 16, .inl (fun _ => 0))), (q27_5_88_qx, .inl (cA, 5, .inl (fun _ => 0))), (q36_5_88_qx, .inl (cA, 20, .inl (fun _ => 0))), (q10_88_qx, .inl (cA, 5, .inl (fun _ => 0))), (q17_88_qx, .inl (cA, 5, .inl (fun _ => 0))), (qm, .inr (7, [.null, .null, .int 0, .int 0, .null, .int 0, .long 0, .int 0, .int 0, .int 0, .int 0, .int 0, .null, .long 0, .null, .null, .null, .null]))] := hD
  refine W.widen (k := 22) (n := 8597) (by omega) (by omega) ?_
  refine lv_dup hx hb d_Law_law_11 rfl ?_
  have hPc := hP.sub (ws' := [(qm, .inr (7, [.null, .null, .int 0, .int 0, .null, .int 0, .long 0, .int 0, .int 0, .int 0, .int 0, .int 0, .null, .long 0, .null, .null, .null, .null]))]) [21] rfl
  have hDc := hD.sub (ws' := [(qm, .inr (7, [.null, .null, .int 0, .int 0, .null, .int 0, .long 0, .int 0, .int 0, .int 0, .int 0, .int 0, .null, .long 0, .null, .null, .null, .null]))]) [21] (by decide) rfl
  have hKc2 := hK.sub (tys' := []) [] rfl
  have hFc := va_free (wc := [(qm, .inr (7, [.null, .null, .int 0, .int 0, .null, .int 0, .long 0, .int 0, .int 0, .int 0, .int 0, .int 0, .null, .long 0, .null, .null, .null, .null]))]) hD hS hA [21] rfl
  refine va_callv (va_runI (As := []) (rest := [.ref qm]) ⟨hx, hb, hml, hown, hts⟩ (ct_Model_Model l dC dI qm H.size) (cwI 0 hts (gd_code tw_529) rfl rfl rfl (hts _ tw_9) (hts _ tw_527) (hts _ tw_528) rfl (by decide +kernel) ⟨Nat.le_of_ble_eq_true rfl, Nat.le_of_ble_eq_true rfl⟩) ⟨fun a U g mk q => by obtain ⟨q0, q1, qP, qK, qD⟩ := q; exact ⟨q0, q1, qP, va_K.moved (u := U) (U := U.calling g mk a) (Vm.Alike.refl U.vm) qK, qD⟩, fun U hU hW => ⟨rfl, by rw [hU], by rw [hU]; exact hPc, va_K.moved hW.alike hKc2, hDc.weaken (fun _ _ _ _ => trivial)⟩⟩ rfl rfl hl.1 rfl (lv_room (Nat.le_of_ble_eq_true rfl)) d_Law_law_12 ⟨Nat.le_of_ble_eq_true rfl, Nat.le_of_ble_eq_true rfl⟩) hS (fun q _ h => hFc q h) hFc (fun u t H1 locs ht hvm hw hB hz1 hk1 hS => ?_)
  obtain ⟨q8_qm, q17_qm, q26_qm, q40_qm, q49_qm, q57_qm, q65_qm, q73_qm, cB, hP1, hK1, hD1⟩ := hB
  rw [ht] at hP1
  have hK1 := va_K.moved hvm.symm hK1
  obtain rfl : cA = cB := sd_oneA (hK.app hK1) (i := 0) (j := 1) rfl rfl
  obtain ⟨hP, hD⟩ := va_join (wr := [(qx, .inr (0, [.ref q8_qx, .int (0 : Int32), .int (0 : Int32), .int (-1 : Int32), .ref q29_qx, .ref q40_qx, .ref q51_qx, .ref q62_qx, .ref q73_qx, .ref q84_qx])), (q8_qx, .inl (cA, 200, .inl (fun _ => 0))), (q29_qx, .inr (1, [.ref q8_33_qx, .ref q16_33_qx, .ref q24_33_qx, .int 0, .int 0])), (q8_33_qx, .inl (cA, 7680, .inl (fun _ => 0))), (q16_33_qx, .inl (cA, 64, .inl (fun _ => 0))), (q24_33_qx, .inl (cA, 64, .inl (sd_ord 64))), (q40_qx, .inr (2, [.int 0])), (q51_qx, .inr (3, [.int 0, .int 0])), (q62_qx, .inr (4, [.int 0, .int 0])), (q73_qx, .inr (5, [.ref q8_6_77_qx, .ref q36_6_77_qx, .int (1 : Int32), .ref q20_6_77_qx, .ref q27_6_77_qx])), (q8_6_77_qx, .inl (cA, 192, .inl (fun _ => 0))), (q20_6_77_qx, .inl (cA, 64, .inl (fun _ => 0))), (q27_6_77_qx, .inl (cA, 8, .inl (fun _ => 0))), (q36_6_77_qx, .inl (cA, 32, .inl (fun _ => 0))), (q84_qx, .inr (6, [.ref q8_5_88_qx, .ref q36_5_88_qx, .int (0 : Int32), .ref q20_5_88_qx, .ref q27_5_88_qx, .ref q10_88_qx, .ref q17_88_qx])), (q8_5_88_qx, .inl (cA, 192, .inl (fun _ => 0))), (q20_5_88_qx, .inl (cA, 16, .inl (fun _ => 0))), (q27_5_88_qx, .inl (cA, 5, .inl (fun _ => 0))), (q36_5_88_qx, .inl (cA, 20, .inl (fun _ => 0))), (q10_88_qx, .inl (cA, 5, .inl (fun _ => 0))), (q17_88_qx, .inl (cA, 5, .inl (fun _ => 0)))]) (w1 := [(qm, .inr (7, [.ref q8_qm, .ref q17_qm, .int 0, .int 0, .ref q26_qm, .int 0, .long 0, .int 0, .int (-1 : Int32), .int 0, .int 0, .int 0, .ref q40_qm, .long 0, .ref q49_qm, .ref q57_qm, .ref q65_qm, .ref q73_qm])), (q8_qm, .inl (cA, 16800, .inl (fun _ => 0))), (q17_qm, .inl (cA, 140, .inl (fun _ => 0))), (q26_qm, .inl (cA, 200, .inl (fun _ => 0))), (q40_qm, .inl (cA, 201, .inl (fun _ => 0))), (q49_qm, .inl (cA, 192, .inl (fun _ => 0))), (q57_qm, .inl (cA, 64, .inl (fun _ => 0))), (q65_qm, .inl (cA, 8, .inl (fun _ => 0))), (q73_qm, .inl (cA, 10, .inl (fun _ => 0)))]) hP hD [21] [0, 1, 2, 3, 4, 5, 6, 7, 8, 9, 10, 11, 12, 13, 14, 15, 16, 17, 18, 19, 20] rfl rfl (by decide) (by decide) hk1 hFc hP1 hD1
  have hK : va_K (dC, dI) vwCl [(cA, .int)] s := hK.sub [0] rfl
  generalize H1 = H at hP hS ⊢
  have hP : va_P (dC, dI) vwCl [(qx, .inr (0, [.ref q8_qx, .int (0 : Int32), .int (0 : Int32), .int (-1 : Int32), .ref q29_qx, .ref q40_qx, .ref q51_qx, .ref q62_qx, .ref q73_qx, .ref q84_qx])), (q8_qx, .inl (cA, 200, .inl (fun _ => 0))), (q29_qx, .inr (1, [.ref q8_33_qx, .ref q16_33_qx, .ref q24_33_qx, .int 0, .int 0])), (q8_33_qx, .inl (cA, 7680, .inl (fun _ => 0))), (q16_33_qx, .inl (cA, 64, .inl (fun _ => 0))), (q24_33_qx, .inl (cA, 64, .inl (sd_ord 64))), (q40_qx, .inr (2, [.int 0])), (q51_qx, .inr (3, [.int 0, .int 0])), (q62_qx, .inr (4, [.int 0, .int 0])), (q73_qx, .inr (5, [.ref q8_6_77_qx, .ref q36_6_77_qx, .int (1 : Int32), .ref q20_6_77_qx, .ref q27_6_77_qx])), (q8_6_77_qx, .inl (cA, 192, .inl (fun _ => 0))), (q20_6_77_qx, .inl (cA, 64, .inl (fun _ => 0))), (q27_6_77_qx, .inl (cA, 8, .inl (fun _ => 0))), (q36_6_77_qx, .inl (cA, 32, .inl (fun _ => 0))), (q84_qx, .inr (6, [.ref q8_5_88_qx, .ref q36_5_88_qx, .int (0 : Int32), .ref q20_5_88_qx, .ref q27_5_88_qx, .ref q10_88_qx, .ref q17_88_qx])), (q8_5_88_qx, .inl (cA, 192, .inl (fun _ => 0))), (q20_5_88_qx, .inl (cA, 16, .inl (fun _ => 0))), (q27_5_88_qx, .inl (cA, 5, .inl (fun _ => 0))), (q36_5_88_qx, .inl (cA, 20, .inl (fun _ => 0))), (q10_88_qx, .inl (cA, 5, .inl (fun _ => 0))), (q17_88_qx, .inl (cA, 5, .inl (fun _ => 0))), (qm, .inr (7, [.ref q8_qm, .ref q17_qm, .int 0, .int 0, .ref q26_qm, .int 0, .long 0, .int 0, .int (-1 : Int32), .int 0, .int 0, .int 0, .ref q40_qm, .long 0, .ref q49_qm, .ref q57_qm, .ref q65_qm, .ref q73_qm])), (q8_qm, .inl (cA, 16800, .inl (fun _ => 0))), (q17_qm, .inl (cA, 140, .inl (fun _ => 0))), (q26_qm, .inl (cA, 200, .inl (fun _ => 0))), (q40_qm, .inl (cA, 201, .inl (fun _ => 0))), (q49_qm, .inl (cA, 192, .inl (fun _ => 0))), (q57_qm, .inl (cA, 64, .inl (fun _ => 0))), (q65_qm, .inl (cA, 8, .inl (fun _ => 0))), (q73_qm, .inl (cA, 10, .inl (fun _ => 0)))] H := hP
  have hD : va_D (fun q : Nat => s.heap.size ≤ q) [(qx, .inr (0, [.ref q8_qx, .int (0 : Int32), .int (0 : Int32), .int (-1 : Int32), .ref q29_qx, .ref q40_qx, .ref q51_qx, .ref q62_qx, .ref q73_qx, .ref q84_qx])), (q8_qx, .inl (cA, 200, .inl (fun _ => 0))), (q29_qx, .inr (1, [.ref q8_33_qx, .ref q16_33_qx, .ref q24_33_qx, .int 0, .int 0])), (q8_33_qx, .inl (cA, 7680, .inl (fun _ => 0))), (q16_33_qx, .inl (cA, 64, .inl (fun _ => 0))), (q24_33_qx, .inl (cA, 64, .inl (sd_ord 64))), (q40_qx, .inr (2, [.int 0])), (q51_qx, .inr (3, [.int 0, .int 0])), (q62_qx, .inr (4, [.int 0, .int 0])), (q73_qx, .inr (5, [.ref q8_6_77_qx, .ref q36_6_77_qx, .int (1 : Int32), .ref q20_6_77_qx, .ref q27_6_77_qx])), (q8_6_77_qx, .inl (cA, 192, .inl (fun _ => 0))), (q20_6_77_qx, .inl (cA, 64, .inl (fun _ => 0))), (q27_6_77_qx, .inl (cA, 8, .inl (fun _ => 0))), (q36_6_77_qx, .inl (cA, 32, .inl (fun _ => 0))), (q84_qx, .inr (6, [.ref q8_5_88_qx, .ref q36_5_88_qx, .int (0 : Int32), .ref q20_5_88_qx, .ref q27_5_88_qx, .ref q10_88_qx, .ref q17_88_qx])), (q8_5_88_qx, .inl (cA, 192, .inl (fun _ => 0))), (q20_5_88_qx, .inl (cA, 16, .inl (fun _ => 0))), (q27_5_88_qx, .inl (cA, 5, .inl (fun _ => 0))), (q36_5_88_qx, .inl (cA, 20, .inl (fun _ => 0))), (q10_88_qx, .inl (cA, 5, .inl (fun _ => 0))), (q17_88_qx, .inl (cA, 5, .inl (fun _ => 0))), (qm, .inr (7, [.ref q8_qm, .ref q17_qm, .int 0, .int 0, .ref q26_qm, .int 0, .long 0, .int 0, .int (-1 : Int32), .int 0, .int 0, .int 0, .ref q40_qm, .long 0, .ref q49_qm, .ref q57_qm, .ref q65_qm, .ref q73_qm])), (q8_qm, .inl (cA, 16800, .inl (fun _ => 0))), (q17_qm, .inl (cA, 140, .inl (fun _ => 0))), (q26_qm, .inl (cA, 200, .inl (fun _ => 0))), (q40_qm, .inl (cA, 201, .inl (fun _ => 0))), (q49_qm, .inl (cA, 192, .inl (fun _ => 0))), (q57_qm, .inl (cA, 64, .inl (fun _ => 0))), (q65_qm, .inl (cA, 8, .inl (fun _ => 0))), (q73_qm, .inl (cA, 10, .inl (fun _ => 0)))] := hD
  refine W.widen (k := 30) (n := 26212) (by omega) (by omega) ?_
  refine lv_astore_n (lv' := [(2, .ref qm), (1, .ref qx), (0, .ref b)]) hx hb d_Law_law_15 rfl hl (by decide) rfl (fun ls hl => ?_)
  refine lv_iconst (v := 0) hx hb d_Law_law_16 (by decide) ?_
  refine lv_istore_n (lv' := [(3, .int 0), (2, .ref qm), (1, .ref qx), (0, .ref b)]) hx hb d_Law_law_17 rfl hl (by decide) rfl (fun ls hl => ?_)
  obtain ⟨qX, eqX⟩ : ∃ q : Nat → Nat, q = (fun k => match k with
    | 0 => qx
    | 1 => q8_qx
    | 2 => q29_qx
    | 3 => q8_33_qx
    | 4 => q16_33_qx
    | 5 => q24_33_qx
    | 6 => q40_qx
    | 7 => q51_qx
    | 8 => q62_qx
    | 9 => q73_qx
    | 10 => q8_6_77_qx
    | 11 => q36_6_77_qx
    | 12 => q20_6_77_qx
    | 13 => q27_6_77_qx
    | 14 => q84_qx
    | 15 => q8_5_88_qx
    | 16 => q36_5_88_qx
    | 17 => q20_5_88_qx
    | 18 => q27_5_88_qx
    | 19 => q10_88_qx
    | _ => q17_88_qx) := ⟨_, rfl⟩
  obtain ⟨qM, eqM⟩ : ∃ q : Nat → Nat, q = (fun k => match k with
    | 0 => qm
    | 1 => q8_qm
    | 2 => q17_qm
    | 3 => q26_qm
    | 4 => q40_qm
    | 5 => q49_qm
    | 6 => q57_qm
    | 7 => q65_qm
    | _ => q73_qm) := ⟨_, rfl⟩
  have hP9 := hP.sub (ws' := wdX qX cA sd_X0 ++ wdM qM cA sd_M0) [0, 1, 2, 3, 4, 5, 6, 7, 8, 9, 10, 13, 11, 12, 14, 15, 18, 16, 17, 19, 20, 21, 22, 23, 24, 25, 26, 27, 28, 29] (by rw [eqX, eqM]; rfl)
  have hD9 := hD.sub (ws' := wdX qX cA sd_X0 ++ wdM qM cA sd_M0) [0, 1, 2, 3, 4, 5, 6, 7, 8, 9, 10, 13, 11, 12, 14, 15, 18, 16, 17, 19, 20, 21, 22, 23, 24, 25, 26, 27, 28, 29] (by decide) (by rw [eqX, eqM]; rfl)
  have hl : lv_has ls 4 [(0, .ref b), (1, .ref (qX 0)), (2, .ref (qM 0)), (3, .int (nI 0))] := by rw [eqX, eqM]; exact lv_sub hl [3, 2, 1, 0] rfl
  exact law_loop hsim hL C0 hK hZX hZM (L + 1) 0 sd_X0 sd_M0 _ _ ls (Nat.zero_le L) (by omega) hR0 (sd_CF_of hP9 hD9 hS) hl
