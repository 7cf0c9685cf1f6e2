section CT5
variable {l : Launch} {w : Wp} {L : Ly} {E : Cx} {M : Mm} {own : String} {cc : ByteArray} {maxL n h0 a N : Nat}
theorem ra_I (cx : OkN w E own cc maxL n h0) {cA : ClassId} (h : (xS E).vm.findClass ("[" ++ (newarray.typeOf .int).toString) = some cA) : cA = w.2.1 :=
  Option.some.inj (h.symm.trans (cx.2.2.2.2.2.1.1.2 0 _ rfl).2)
theorem ra_Z (cx : OkN w E own cc maxL n h0) {cA : ClassId} (h : (xS E).vm.findClass ("[" ++ (newarray.typeOf .boolean).toString) = some cA) : cA = w.2.2.1 :=
  Option.some.inj (h.symm.trans (cx.2.2.2.2.2.1.1.2 1 _ rfl).2)
theorem ce_I (cx : OkN w E own cc maxL n h0) (hL : L a = some (gI w N)) (hM : ∀ j, M a j = nI 0) : ∀ g, L a = some g → ∀ cA : ClassId, (xS E).vm.findClass ("[" ++ (newarray.typeOf .int).toString) = some cA → ∃ a0, g (M a) = .inl (cA, a0) ∧ vp_cell cA a0 = arrV cA N (fun _ => defaultValue (newarray.typeOf .int)) := by
  intro g hg cA hA
  have e := ra_I cx hA
  subst e
  rw [hL] at hg
  cases hg
  refine ⟨(N, .inl (M a)), rfl, ?_⟩
  rw [vp_cell_i]
  congr 1
  funext j
  rw [hM j]
  rfl
theorem ce_Z (cx : OkN w E own cc maxL n h0) (hL : L a = some (gZ w N)) (hM : ∀ j, M a j = nI 0) : ∀ g, L a = some g → ∀ cA : ClassId, (xS E).vm.findClass ("[" ++ (newarray.typeOf .boolean).toString) = some cA → ∃ a0, g (M a) = .inl (cA, a0) ∧ vp_cell cA a0 = arrV cA N (fun _ => defaultValue (newarray.typeOf .boolean)) := by
  intro g hg cA hA
  have e := ra_Z cx hA
  subst e
  rw [hL] at hg
  cases hg
  refine ⟨(N, .inl (fun k => zb (M a k))), rfl, ?_⟩
  rw [vp_cell_i]
  congr 1
  funext j
  rw [hM j]
  rfl
theorem d_one {e : va_E} {A : Nat → Prop} (h : A h0) : va_D A [(h0, e)] := ⟨fun i j p q h1 h2 _ => by
    have a1 := (List.getElem?_eq_some_iff.mp h1).1
    have a2 := (List.getElem?_eq_some_iff.mp h2).1
    simp at a1 a2
    omega, fun k q hq => by
    match k, hq with
    | 0, hq => cases hq; exact h
    | k + 1, hq => simp at hq⟩
theorem lt_one {e : va_E} {sz : Nat} (h : h0 < sz) : ∀ x ∈ [(h0, e)], x.1 < sz := fun x hx => by rw [List.mem_singleton.mp hx]; exact h
theorem fO_c {ks : List (Option Nat)} {f : Nat → Int32} {fs : List Value} (h : ∀ k, k < ks.length → fs[k]? = some (fV (ks.getD k none) (f k))) (hl : fs.length = ks.length) : fO ks f = fs := by
  apply List.ext_getElem?
  intro j
  by_cases hj : j < ks.length
  · rw [fO_get hj, h j hj]
  · rw [List.getElem?_eq_none (by rw [fO_len]; omega), List.getElem?_eq_none (by omega)]
theorem k_X2 (hL : LNet w L h0) (hM : ∀ i j, i < 7 → M (h0 + i) j = nI 0) : CN l w L M yX2_init cX2_init 1 1 2 [.int 0, .int 0, .null, .null, .null, .null, .null, .null] 7 78 h0 := by
  refine CN_of (by decide +kernel) rfl (Nat.le_refl _) fun E cx en => ?_
  have hA : xF E h0 := (cx.2.2.2.2.2.2.1 h0).mp (Nat.le_refl _)
  have ec : (xR E).cells = 6 := en.2.2.2.2.2.1
  have es : (xR E).slots = 78 := en.2.2.2.2.2.2
  have hnm := en.2.2.2.2.1
  refine n_aload_n cx dX2_init_0 rfl 0 rfl ?_
  refine n_obj cx ob_X2 ob_i ob_c (Nat.le_refl _) dX2_init_1 ?_ (by decide)
  refine n_aload_n cx dX2_init_4 rfl 0 rfl ?_
  refine n_bipush (v := nI 10) cx dX2_init_5 (by decide) ?_
  refine n_newa (x := nI 10) (N := 10) cx (atype := .int) ar_I (by decide) (by decide) (by decide) (by omega) (by omega) (by omega) (lt_one (by omega)) (ce_I cx (LNet_feeder hL) (fun j => hM 1 j (by omega))) dX2_init_7 ?_
  refine n_putF (v := .ref (h0 + 1)) (ty := .array .int) cx (ci := 2) rfl in_X2 tyX2 tyX2_ok nmX2 (d_one hA) 0 rfl 2 (by decide) tf_X2_9 rfl rfl hnm rfl (by decide +kernel) rfl rfl (by show _ < 8; decide) dX2_init_9 ?_
  refine n_aload_n cx dX2_init_12 rfl 0 rfl ?_
  refine n_bipush (v := nI 16) cx dX2_init_13 (by decide) ?_
  refine n_newa (x := nI 16) (N := 16) cx (atype := .int) ar_I (by decide) (by decide) (by decide) (by omega) (by omega) (by omega) (lt_one (by omega)) (ce_I cx (LNet_one hL) (fun j => hM 2 j (by omega))) dX2_init_15 ?_
  refine n_putF (v := .ref (h0 + 2)) (ty := .array .int) cx (ci := 2) rfl in_X2 tyX2 tyX2_ok nmX2 (d_one hA) 0 rfl 3 (by decide) tf_X2_15 rfl rfl hnm rfl (by decide +kernel) rfl rfl (by show _ < 8; decide) dX2_init_17 ?_
  refine n_aload_n cx dX2_init_20 rfl 0 rfl ?_
  refine n_bipush (v := nI 16) cx dX2_init_21 (by decide) ?_
  refine n_newa (x := nI 16) (N := 16) cx (atype := .int) ar_I (by decide) (by decide) (by decide) (by omega) (by omega) (by omega) (lt_one (by omega)) (ce_I cx (LNet_other hL) (fun j => hM 3 j (by omega))) dX2_init_23 ?_
  refine n_putF (v := .ref (h0 + 3)) (ty := .array .int) cx (ci := 2) rfl in_X2 tyX2 tyX2_ok nmX2 (d_one hA) 0 rfl 4 (by decide) tf_X2_18 rfl rfl hnm rfl (by decide +kernel) rfl rfl (by show _ < 8; decide) dX2_init_25 ?_
  refine n_aload_n cx dX2_init_28 rfl 0 rfl ?_
  refine n_bipush (v := nI 16) cx dX2_init_29 (by decide) ?_
  refine n_newa (x := nI 16) (N := 16) cx (atype := .boolean) ar_Z (by decide) (by decide) (by decide) (by omega) (by omega) (by omega) (lt_one (by omega)) (ce_Z cx (LNet_closed hL) (fun j => hM 4 j (by omega))) dX2_init_31 ?_
  refine n_putF (v := .ref (h0 + 4)) (ty := .array .boolean) cx (ci := 2) rfl in_X2 tyX2 tyX2_ok nmX2 (d_one hA) 0 rfl 5 (by decide) tf_X2_21 rfl rfl hnm rfl (by decide +kernel) rfl rfl (by show _ < 8; decide) dX2_init_33 ?_
  refine n_aload_n cx dX2_init_36 rfl 0 rfl ?_
  refine n_bipush (v := nI 10) cx dX2_init_37 (by decide) ?_
  refine n_newa (x := nI 10) (N := 10) cx (atype := .int) ar_I (by decide) (by decide) (by decide) (by omega) (by omega) (by omega) (lt_one (by omega)) (ce_I cx (LNet_lowest hL) (fun j => hM 5 j (by omega))) dX2_init_39 ?_
  refine n_putF (v := .ref (h0 + 5)) (ty := .array .int) cx (ci := 2) rfl in_X2 tyX2 tyX2_ok nmX2 (d_one hA) 0 rfl 6 (by decide) tf_X2_25 rfl rfl hnm rfl (by decide +kernel) rfl rfl (by show _ < 8; decide) dX2_init_41 ?_
  refine n_aload_n cx dX2_init_44 rfl 0 rfl ?_
  refine n_bipush (v := nI 10) cx dX2_init_45 (by decide) ?_
  refine n_newa (x := nI 10) (N := 10) cx (atype := .boolean) ar_Z (by decide) (by decide) (by decide) (by omega) (by omega) (by omega) (lt_one (by omega)) (ce_Z cx (LNet_live hL) (fun j => hM 6 j (by omega))) dX2_init_47 ?_
  refine n_putF (v := .ref (h0 + 6)) (ty := .array .boolean) cx (ci := 2) rfl in_X2 tyX2 tyX2_ok nmX2 (d_one hA) 0 rfl 7 (by decide) tf_X2_28 rfl rfl hnm rfl (by decide +kernel) rfl rfl (by show _ < 8; decide) dX2_init_49 ?_
  refine n_vret cx en rfl (fun g hg => ?_) dX2_init_52
  rw [LNet_o hL] at hg
  cases hg
  show (Sum.inr (2, fO (ksNet h0) (M h0)) : va_E) = _
  congr 2
  refine fO_c (fun k hk => ?_) rfl
  have hk : k < 8 := hk
  match k, hk with
  | 0, _ => show some (Value.int 0) = some (Value.int (M h0 0)); rw [show M h0 0 = nI 0 from hM 0 0 (by omega)]; rfl
  | 1, _ => show some (Value.int 0) = some (Value.int (M h0 1)); rw [show M h0 1 = nI 0 from hM 0 1 (by omega)]; rfl
  | 2, _ => rfl
  | 3, _ => rfl
  | 4, _ => rfl
  | 5, _ => rfl
  | 6, _ => rfl
  | 7, _ => rfl
  | k + 8, h => omega
theorem k_X5 (hL : LService w L h0) (hM : ∀ i j, i < 8 → ¬ (i = 0 ∧ j = 1) → M (h0 + i) j = nI 0) (hb : M h0 1 = nI 12) : CN l w L M yX5_init cX5_init 1 1 5 [.int 0, .int 0, .int 0, .null, .null, .null, .null, .null, .null, .null] 8 70 h0 := by
  refine CN_of (by decide +kernel) rfl (Nat.le_refl _) fun E cx en => ?_
  have hA : xF E h0 := (cx.2.2.2.2.2.2.1 h0).mp (Nat.le_refl _)
  have ec : (xR E).cells = 7 := en.2.2.2.2.2.1
  have es : (xR E).slots = 70 := en.2.2.2.2.2.2
  have hnm := en.2.2.2.2.1
  refine n_aload_n cx dX5_init_0 rfl 0 rfl ?_
  refine n_obj cx ob_X5 ob_i ob_c (Nat.le_refl _) dX5_init_1 ?_ (by decide)
  refine n_aload_n cx dX5_init_4 rfl 0 rfl ?_
  refine n_bipush (v := nI 12) cx dX5_init_5 (by decide) ?_
  refine n_put (v := .int (nI 12)) (ty := .int) cx (ci := 5) rfl in_X5 tyX5 tyX5_ok nmX5 (d_one hA) 0 rfl 1 (by decide) tf_X5_9 rfl rfl (by decide +kernel) rfl rfl (by show _ < 10; decide) dX5_init_7 ?_
  refine n_aload_n cx dX5_init_10 rfl 0 rfl ?_
  refine n_bipush (v := nI 10) cx dX5_init_11 (by decide) ?_
  refine n_newa (x := nI 10) (N := 10) cx (atype := .int) ar_I (by decide) (by decide) (by decide) (by omega) (by omega) (by omega) (lt_one (by omega)) (ce_I cx (LService_needed hL) (fun j => hM 1 j (by omega) (by omega))) dX5_init_13 ?_
  refine n_putF (v := .ref (h0 + 1)) (ty := .array .int) cx (ci := 5) rfl in_X5 tyX5 tyX5_ok nmX5 (d_one hA) 0 rfl 3 (by decide) tf_X5_15 rfl rfl hnm rfl (by decide +kernel) rfl rfl (by show _ < 10; decide) dX5_init_15 ?_
  refine n_aload_n cx dX5_init_18 rfl 0 rfl ?_
  refine n_bipush (v := nI 10) cx dX5_init_19 (by decide) ?_
  refine n_newa (x := nI 10) (N := 10) cx (atype := .boolean) ar_Z (by decide) (by decide) (by decide) (by omega) (by omega) (by omega) (lt_one (by omega)) (ce_Z cx (LService_bridged hL) (fun j => hM 2 j (by omega) (by omega))) dX5_init_21 ?_
  refine n_putF (v := .ref (h0 + 2)) (ty := .array .boolean) cx (ci := 5) rfl in_X5 tyX5 tyX5_ok nmX5 (d_one hA) 0 rfl 4 (by decide) tf_X5_19 rfl rfl hnm rfl (by decide +kernel) rfl rfl (by show _ < 10; decide) dX5_init_23 ?_
  refine n_aload_n cx dX5_init_26 rfl 0 rfl ?_
  refine n_bipush (v := nI 10) cx dX5_init_27 (by decide) ?_
  refine n_newa (x := nI 10) (N := 10) cx (atype := .boolean) ar_Z (by decide) (by decide) (by decide) (by omega) (by omega) (by omega) (lt_one (by omega)) (ce_Z cx (LService_earthed hL) (fun j => hM 3 j (by omega) (by omega))) dX5_init_29 ?_
  refine n_putF (v := .ref (h0 + 3)) (ty := .array .boolean) cx (ci := 5) rfl in_X5 tyX5 tyX5_ok nmX5 (d_one hA) 0 rfl 5 (by decide) tf_X5_23 rfl rfl hnm rfl (by decide +kernel) rfl rfl (by show _ < 10; decide) dX5_init_31 ?_
  refine n_aload_n cx dX5_init_34 rfl 0 rfl ?_
  refine n_bipush (v := nI 10) cx dX5_init_35 (by decide) ?_
  refine n_newa (x := nI 10) (N := 10) cx (atype := .boolean) ar_Z (by decide) (by decide) (by decide) (by omega) (by omega) (by omega) (lt_one (by omega)) (ce_Z cx (LService_gang hL) (fun j => hM 4 j (by omega) (by omega))) dX5_init_37 ?_
  refine n_putF (v := .ref (h0 + 4)) (ty := .array .boolean) cx (ci := 5) rfl in_X5 tyX5 tyX5_ok nmX5 (d_one hA) 0 rfl 6 (by decide) tf_X5_26 rfl rfl hnm rfl (by decide +kernel) rfl rfl (by show _ < 10; decide) dX5_init_39 ?_
  refine n_aload_n cx dX5_init_42 rfl 0 rfl ?_
  refine n_bipush (v := nI 10) cx dX5_init_43 (by decide) ?_
  refine n_newa (x := nI 10) (N := 10) cx (atype := .int) ar_I (by decide) (by decide) (by decide) (by omega) (by omega) (by omega) (lt_one (by omega)) (ce_I cx (LService_brought hL) (fun j => hM 5 j (by omega) (by omega))) dX5_init_45 ?_
  refine n_putF (v := .ref (h0 + 5)) (ty := .array .int) cx (ci := 5) rfl in_X5 tyX5 tyX5_ok nmX5 (d_one hA) 0 rfl 7 (by decide) tf_X5_29 rfl rfl hnm rfl (by decide +kernel) rfl rfl (by show _ < 10; decide) dX5_init_47 ?_
  refine n_aload_n cx dX5_init_50 rfl 0 rfl ?_
  refine n_bipush (v := nI 10) cx dX5_init_51 (by decide) ?_
  refine n_newa (x := nI 10) (N := 10) cx (atype := .int) ar_I (by decide) (by decide) (by decide) (by omega) (by omega) (by omega) (lt_one (by omega)) (ce_I cx (LService_until hL) (fun j => hM 6 j (by omega) (by omega))) dX5_init_53 ?_
  refine n_putF (v := .ref (h0 + 6)) (ty := .array .int) cx (ci := 5) rfl in_X5 tyX5 tyX5_ok nmX5 (d_one hA) 0 rfl 8 (by decide) tf_X5_32 rfl rfl hnm rfl (by decide +kernel) rfl rfl (by show _ < 10; decide) dX5_init_55 ?_
  refine n_aload_n cx dX5_init_58 rfl 0 rfl ?_
  refine n_bipush (v := nI 10) cx dX5_init_59 (by decide) ?_
  refine n_newa (x := nI 10) (N := 10) cx (atype := .int) ar_I (by decide) (by decide) (by decide) (by omega) (by omega) (by omega) (lt_one (by omega)) (ce_I cx (LService_tools hL) (fun j => hM 7 j (by omega) (by omega))) dX5_init_61 ?_
  refine n_putF (v := .ref (h0 + 7)) (ty := .array .int) cx (ci := 5) rfl in_X5 tyX5 tyX5_ok nmX5 (d_one hA) 0 rfl 9 (by decide) tf_X5_35 rfl rfl hnm rfl (by decide +kernel) rfl rfl (by show _ < 10; decide) dX5_init_63 ?_
  refine n_vret cx en rfl (fun g hg => ?_) dX5_init_66
  rw [LService_o hL] at hg
  cases hg
  show (Sum.inr (5, fO (ksService h0) (M h0)) : va_E) = _
  congr 2
  refine fO_c (fun k hk => ?_) rfl
  have hk : k < 10 := hk
  match k, hk with
  | 0, _ => show some (Value.int 0) = some (Value.int (M h0 0)); rw [show M h0 0 = nI 0 from hM 0 0 (by omega) (by omega)]; rfl
  | 1, _ => show some (Value.int (nI 12)) = some (Value.int (M h0 1)); rw [hb]
  | 2, _ => show some (Value.int 0) = some (Value.int (M h0 2)); rw [show M h0 2 = nI 0 from hM 0 2 (by omega) (by omega)]; rfl
  | 3, _ => rfl
  | 4, _ => rfl
  | 5, _ => rfl
  | 6, _ => rfl
  | 7, _ => rfl
  | 8, _ => rfl
  | 9, _ => rfl
  | k + 10, h => omega
theorem k_X1 (hL : LLog w L h0) (hM : ∀ i j, i < 8 → M (h0 + i) j = nI 0) : CN l w L M yX1_init cX1_init 1 1 1 [.int 0, .int 0, .null, .null, .null, .null, .null, .null, .null] 8 124 h0 := by
  refine CN_of (by decide +kernel) rfl (Nat.le_refl _) fun E cx en => ?_
  have hA : xF E h0 := (cx.2.2.2.2.2.2.1 h0).mp (Nat.le_refl _)
  have ec : (xR E).cells = 7 := en.2.2.2.2.2.1
  have es : (xR E).slots = 124 := en.2.2.2.2.2.2
  have hnm := en.2.2.2.2.1
  refine n_aload_n cx dX1_init_0 rfl 0 rfl ?_
  refine n_obj cx ob_X1 ob_i ob_c (Nat.le_refl _) dX1_init_1 ?_ (by decide)
  refine n_aload_n cx dX1_init_4 rfl 0 rfl ?_
  refine n_bipush (v := nI 24) cx dX1_init_5 (by decide) ?_
  refine n_newa (x := nI 24) (N := 24) cx (atype := .int) ar_I (by decide) (by decide) (by decide) (by omega) (by omega) (by omega) (lt_one (by omega)) (ce_I cx (LLog_kinds hL) (fun j => hM 1 j (by omega))) dX1_init_7 ?_
  refine n_putF (v := .ref (h0 + 1)) (ty := .array .int) cx (ci := 1) rfl in_X1 tyX1 tyX1_ok nmX1 (d_one hA) 0 rfl 2 (by decide) tf_X1_9 rfl rfl hnm rfl (by decide +kernel) rfl rfl (by show _ < 9; decide) dX1_init_9 ?_
  refine n_aload_n cx dX1_init_12 rfl 0 rfl ?_
  refine n_bipush (v := nI 24) cx dX1_init_13 (by decide) ?_
  refine n_newa (x := nI 24) (N := 24) cx (atype := .int) ar_I (by decide) (by decide) (by decide) (by omega) (by omega) (by omega) (lt_one (by omega)) (ce_I cx (LLog_places hL) (fun j => hM 2 j (by omega))) dX1_init_15 ?_
  refine n_putF (v := .ref (h0 + 2)) (ty := .array .int) cx (ci := 1) rfl in_X1 tyX1 tyX1_ok nmX1 (d_one hA) 0 rfl 3 (by decide) tf_X1_15 rfl rfl hnm rfl (by decide +kernel) rfl rfl (by show _ < 9; decide) dX1_init_17 ?_
  refine n_aload_n cx dX1_init_20 rfl 0 rfl ?_
  refine n_bipush (v := nI 24) cx dX1_init_21 (by decide) ?_
  refine n_newa (x := nI 24) (N := 24) cx (atype := .int) ar_I (by decide) (by decide) (by decide) (by omega) (by omega) (by omega) (lt_one (by omega)) (ce_I cx (LLog_times hL) (fun j => hM 3 j (by omega))) dX1_init_23 ?_
  refine n_putF (v := .ref (h0 + 3)) (ty := .array .int) cx (ci := 1) rfl in_X1 tyX1 tyX1_ok nmX1 (d_one hA) 0 rfl 4 (by decide) tf_X1_18 rfl rfl hnm rfl (by decide +kernel) rfl rfl (by show _ < 9; decide) dX1_init_25 ?_
  refine n_aload_n cx dX1_init_28 rfl 0 rfl ?_
  refine n_bipush (v := nI 10) cx dX1_init_29 (by decide) ?_
  refine n_newa (x := nI 10) (N := 10) cx (atype := .int) ar_I (by decide) (by decide) (by decide) (by omega) (by omega) (by omega) (lt_one (by omega)) (ce_I cx (LLog_feederAhead hL) (fun j => hM 4 j (by omega))) dX1_init_31 ?_
  refine n_putF (v := .ref (h0 + 4)) (ty := .array .int) cx (ci := 1) rfl in_X1 tyX1 tyX1_ok nmX1 (d_one hA) 0 rfl 5 (by decide) tf_X1_21 rfl rfl hnm rfl (by decide +kernel) rfl rfl (by show _ < 9; decide) dX1_init_33 ?_
  refine n_aload_n cx dX1_init_36 rfl 0 rfl ?_
  refine n_bipush (v := nI 16) cx dX1_init_37 (by decide) ?_
  refine n_newa (x := nI 16) (N := 16) cx (atype := .boolean) ar_Z (by decide) (by decide) (by decide) (by omega) (by omega) (by omega) (lt_one (by omega)) (ce_Z cx (LLog_closedAhead hL) (fun j => hM 5 j (by omega))) dX1_init_39 ?_
  refine n_putF (v := .ref (h0 + 5)) (ty := .array .boolean) cx (ci := 1) rfl in_X1 tyX1 tyX1_ok nmX1 (d_one hA) 0 rfl 6 (by decide) tf_X1_24 rfl rfl hnm rfl (by decide +kernel) rfl rfl (by show _ < 9; decide) dX1_init_41 ?_
  refine n_aload_n cx dX1_init_44 rfl 0 rfl ?_
  refine n_bipush (v := nI 10) cx dX1_init_45 (by decide) ?_
  refine n_newa (x := nI 10) (N := 10) cx (atype := .int) ar_I (by decide) (by decide) (by decide) (by omega) (by omega) (by omega) (lt_one (by omega)) (ce_I cx (LLog_feederTold hL) (fun j => hM 6 j (by omega))) dX1_init_47 ?_
  refine n_putF (v := .ref (h0 + 6)) (ty := .array .int) cx (ci := 1) rfl in_X1 tyX1 tyX1_ok nmX1 (d_one hA) 0 rfl 7 (by decide) tf_X1_28 rfl rfl hnm rfl (by decide +kernel) rfl rfl (by show _ < 9; decide) dX1_init_49 ?_
  refine n_aload_n cx dX1_init_52 rfl 0 rfl ?_
  refine n_bipush (v := nI 16) cx dX1_init_53 (by decide) ?_
  refine n_newa (x := nI 16) (N := 16) cx (atype := .boolean) ar_Z (by decide) (by decide) (by decide) (by omega) (by omega) (by omega) (lt_one (by omega)) (ce_Z cx (LLog_closedTold hL) (fun j => hM 7 j (by omega))) dX1_init_55 ?_
  refine n_putF (v := .ref (h0 + 7)) (ty := .array .boolean) cx (ci := 1) rfl in_X1 tyX1 tyX1_ok nmX1 (d_one hA) 0 rfl 8 (by decide) tf_X1_31 rfl rfl hnm rfl (by decide +kernel) rfl rfl (by show _ < 9; decide) dX1_init_57 ?_
  refine n_vret cx en rfl (fun g hg => ?_) dX1_init_60
  rw [LLog_o hL] at hg
  cases hg
  show (Sum.inr (1, fO (ksLog h0) (M h0)) : va_E) = _
  congr 2
  refine fO_c (fun k hk => ?_) rfl
  have hk : k < 9 := hk
  match k, hk with
  | 0, _ => show some (Value.int 0) = some (Value.int (M h0 0)); rw [show M h0 0 = nI 0 from hM 0 0 (by omega)]; rfl
  | 1, _ => show some (Value.int 0) = some (Value.int (M h0 1)); rw [show M h0 1 = nI 0 from hM 0 1 (by omega)]; rfl
  | 2, _ => rfl
  | 3, _ => rfl
  | 4, _ => rfl
  | 5, _ => rfl
  | 6, _ => rfl
  | 7, _ => rfl
  | 8, _ => rfl
  | k + 9, h => omega
theorem k_X6 (hL : LText w L h0) (hM : ∀ i j, i < 2 → M (h0 + i) j = nI 0) : CN l w L M yX6_init cX6_init 1 1 6 [.int 0, .null, .int 0, .int 0, .int 0] 2 60 h0 := by
  refine CN_of (by decide +kernel) rfl (Nat.le_refl _) fun E cx en => ?_
  have hA : xF E h0 := (cx.2.2.2.2.2.2.1 h0).mp (Nat.le_refl _)
  have ec : (xR E).cells = 1 := en.2.2.2.2.2.1
  have es : (xR E).slots = 60 := en.2.2.2.2.2.2
  have hnm := en.2.2.2.2.1
  refine n_aload_n cx dX6_init_0 rfl 0 rfl ?_
  refine n_obj cx ob_X6 ob_i ob_c (Nat.le_refl _) dX6_init_1 ?_ (by decide)
  refine n_aload_n cx dX6_init_4 rfl 0 rfl ?_
  refine n_bipush (v := nI 60) cx dX6_init_5 (by decide) ?_
  refine n_newa (x := nI 60) (N := 60) cx (atype := .int) ar_I (by decide) (by decide) (by decide) (by omega) (by omega) (by omega) (lt_one (by omega)) (ce_I cx (LText_characters hL) (fun j => hM 1 j (by omega))) dX6_init_7 ?_
  refine n_putF (v := .ref (h0 + 1)) (ty := .array .int) cx (ci := 6) rfl in_X6 tyX6 tyX6_ok nmX6 (d_one hA) 0 rfl 1 (by decide) tf_X6_9 rfl rfl hnm rfl (by decide +kernel) rfl rfl (by show _ < 5; decide) dX6_init_9 ?_
  refine n_vret cx en rfl (fun g hg => ?_) dX6_init_12
  rw [LText_o hL] at hg
  cases hg
  show (Sum.inr (6, fO (ksText h0) (M h0)) : va_E) = _
  congr 2
  refine fO_c (fun k hk => ?_) rfl
  have hk : k < 5 := hk
  match k, hk with
  | 0, _ => show some (Value.int 0) = some (Value.int (M h0 0)); rw [show M h0 0 = nI 0 from hM 0 0 (by omega)]; rfl
  | 1, _ => rfl
  | 2, _ => show some (Value.int 0) = some (Value.int (M h0 2)); rw [show M h0 2 = nI 0 from hM 0 2 (by omega)]; rfl
  | 3, _ => show some (Value.int 0) = some (Value.int (M h0 3)); rw [show M h0 3 = nI 0 from hM 0 3 (by omega)]; rfl
  | 4, _ => show some (Value.int 0) = some (Value.int (M h0 4)); rw [show M h0 4 = nI 0 from hM 0 4 (by omega)]; rfl
  | k + 5, h => omega
theorem k_X3 (hL : LPlan w L h0) (hM : ∀ i j, i < 3 → M (h0 + i) j = nI 0) : CN l w L M yX3_init cX3_init 1 1 3 [.int 0, .null, .null] 3 38 h0 := by
  refine CN_of (by decide +kernel) rfl (Nat.le_refl _) fun E cx en => ?_
  have hA : xF E h0 := (cx.2.2.2.2.2.2.1 h0).mp (Nat.le_refl _)
  have ec : (xR E).cells = 2 := en.2.2.2.2.2.1
  have es : (xR E).slots = 38 := en.2.2.2.2.2.2
  have hnm := en.2.2.2.2.1
  refine n_aload_n cx dX3_init_0 rfl 0 rfl ?_
  refine n_obj cx ob_X3 ob_i ob_c (Nat.le_refl _) dX3_init_1 ?_ (by decide)
  refine n_aload_n cx dX3_init_4 rfl 0 rfl ?_
  refine n_bipush (v := nI 19) cx dX3_init_5 (by decide) ?_
  refine n_newa (x := nI 19) (N := 19) cx (atype := .int) ar_I (by decide) (by decide) (by decide) (by omega) (by omega) (by omega) (lt_one (by omega)) (ce_I cx (LPlan_kinds hL) (fun j => hM 1 j (by omega))) dX3_init_7 ?_
  refine n_putF (v := .ref (h0 + 1)) (ty := .array .int) cx (ci := 3) rfl in_X3 tyX3 tyX3_ok nmX3 (d_one hA) 0 rfl 1 (by decide) tf_X3_9 rfl rfl hnm rfl (by decide +kernel) rfl rfl (by show _ < 3; decide) dX3_init_9 ?_
  refine n_aload_n cx dX3_init_12 rfl 0 rfl ?_
  refine n_bipush (v := nI 19) cx dX3_init_13 (by decide) ?_
  refine n_newa (x := nI 19) (N := 19) cx (atype := .int) ar_I (by decide) (by decide) (by decide) (by omega) (by omega) (by omega) (lt_one (by omega)) (ce_I cx (LPlan_places hL) (fun j => hM 2 j (by omega))) dX3_init_15 ?_
  refine n_putF (v := .ref (h0 + 2)) (ty := .array .int) cx (ci := 3) rfl in_X3 tyX3 tyX3_ok nmX3 (d_one hA) 0 rfl 2 (by decide) tf_X3_15 rfl rfl hnm rfl (by decide +kernel) rfl rfl (by show _ < 3; decide) dX3_init_17 ?_
  refine n_vret cx en rfl (fun g hg => ?_) dX3_init_20
  rw [LPlan_o hL] at hg
  cases hg
  show (Sum.inr (3, fO (ksPlan h0) (M h0)) : va_E) = _
  congr 2
  refine fO_c (fun k hk => ?_) rfl
  have hk : k < 3 := hk
  match k, hk with
  | 0, _ => show some (Value.int 0) = some (Value.int (M h0 0)); rw [show M h0 0 = nI 0 from hM 0 0 (by omega)]; rfl
  | 1, _ => rfl
  | 2, _ => rfl
  | k + 3, h => omega
end CT5
