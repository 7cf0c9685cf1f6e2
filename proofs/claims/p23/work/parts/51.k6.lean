section CT6
variable {l : Launch} {w : Wp} {L : Ly} {E : Cx} {M : Mm} {h0 : Nat}
theorem df_X2 : ∀ j, j < 8 → defaultValue (tyX2 j) = vp_V [.int 0, .int 0, .null, .null, .null, .null, .null, .null] j := fun j hj => by
  match j, hj with
  | 0, _ => rfl
  | 1, _ => rfl
  | 2, _ => rfl
  | 3, _ => rfl
  | 4, _ => rfl
  | 5, _ => rfl
  | 6, _ => rfl
  | 7, _ => rfl
  | j + 8, h => omega
theorem df_X5 : ∀ j, j < 10 → defaultValue (tyX5 j) = vp_V [.int 0, .int 0, .int 0, .null, .null, .null, .null, .null, .null, .null] j := fun j hj => by
  match j, hj with
  | 0, _ => rfl
  | 1, _ => rfl
  | 2, _ => rfl
  | 3, _ => rfl
  | 4, _ => rfl
  | 5, _ => rfl
  | 6, _ => rfl
  | 7, _ => rfl
  | 8, _ => rfl
  | 9, _ => rfl
  | j + 10, h => omega
theorem df_X1 : ∀ j, j < 9 → defaultValue (tyX1 j) = vp_V [.int 0, .int 0, .null, .null, .null, .null, .null, .null, .null] j := fun j hj => by
  match j, hj with
  | 0, _ => rfl
  | 1, _ => rfl
  | 2, _ => rfl
  | 3, _ => rfl
  | 4, _ => rfl
  | 5, _ => rfl
  | 6, _ => rfl
  | 7, _ => rfl
  | 8, _ => rfl
  | j + 9, h => omega
theorem df_X6 : ∀ j, j < 5 → defaultValue (tyX6 j) = vp_V [.int 0, .null, .int 0, .int 0, .int 0] j := fun j hj => by
  match j, hj with
  | 0, _ => rfl
  | 1, _ => rfl
  | 2, _ => rfl
  | 3, _ => rfl
  | 4, _ => rfl
  | j + 5, h => omega
theorem df_X3 : ∀ j, j < 3 → defaultValue (tyX3 j) = vp_V [.int 0, .null, .null] j := fun j hj => by
  match j, hj with
  | 0, _ => rfl
  | 1, _ => rfl
  | 2, _ => rfl
  | j + 3, h => omega
theorem df_X7 : ∀ j, j < 5 → defaultValue (tyX7 j) = vp_V [.null, .null, .null, .null, .null] j := fun j hj => by
  match j, hj with
  | 0, _ => rfl
  | 1, _ => rfl
  | 2, _ => rfl
  | 3, _ => rfl
  | 4, _ => rfl
  | j + 5, h => omega
theorem df_X0 : ∀ j, j < 2 → defaultValue (tyX0 j) = vp_V [.int 0, .null] j := fun j hj => by
  match j, hj with
  | 0, _ => rfl
  | 1, _ => rfl
  | j + 2, h => omega
theorem df_X4 : ∀ j, j < 4 → defaultValue (tyX4 j) = vp_V [.null, .int 0, .int 0, .int 0] j := fun j hj => by
  match j, hj with
  | 0, _ => rfl
  | 1, _ => rfl
  | 2, _ => rfl
  | 3, _ => rfl
  | j + 4, h => omega
theorem k_X7 (hL : LWires w L h0) (hM : ∀ i j, i < 32 → ¬ (i = 8 ∧ j = 1) → M (h0 + i) j = nI 0) (hb : M (h0 + 8) 1 = nI 12) : CN l w L M yX7_init cX7_init 1 2 7 [.null, .null, .null, .null, .null] 32 395 h0 := by
  refine CN_of (by decide +kernel) rfl (Nat.le_refl _) fun E cx en => ?_
  have hA : xF E h0 := (cx.2.2.2.2.2.2.1 h0).mp (Nat.le_refl _)
  have ec : (xR E).cells = 31 := en.2.2.2.2.2.1
  have es : (xR E).slots = 395 := en.2.2.2.2.2.2
  have hnm := en.2.2.2.2.1
  refine n_aload_n cx dX7_init_0 rfl 0 rfl ?_
  refine n_obj cx ob_X7 ob_i ob_c (by decide) dX7_init_1 ?_ (by decide)
  refine n_aload_n cx dX7_init_4 rfl 0 rfl ?_
  refine n_newN cx (ci := 2) rfl in_X2 tyX2 tyX2_ok cl_X7_9 ins_X2 ini_X2 df_X2 (k_X2 (LWires_net hL) (fun i j hi => (congrArg (fun q => M q j) (show h0 + 1 + i = h0 + (1 + i) by omega)).trans (hM (1 + i) j (by omega) (by omega)))) tn_X7_11 im_X2 ini_X2 co_X2 (by decide) rfl (by decide) (by decide) (by omega) (by omega) (lt_one (by omega)) (by omega) (by omega) (Nat.le_of_ble_eq_true rfl) dX7_init_5 dX7_init_8 dX7_init_9 ?_
  refine n_putF (v := .ref (h0 + 1)) (ty := .object "TramWires$Net") cx (ci := 7) rfl in_X7 tyX7 tyX7_ok nmX7 (d_one hA) 0 rfl 0 (by decide) tf_X7_12 rfl rfl hnm rfl (by decide +kernel) rfl rfl (by show _ < 5; decide) dX7_init_12 ?_
  refine n_aload_n cx dX7_init_15 rfl 0 rfl ?_
  refine n_newN cx (ci := 5) rfl in_X5 tyX5 tyX5_ok cl_X7_18 ins_X5 ini_X5 df_X5 (k_X5 (LWires_service hL) (fun i j hi y0 => (congrArg (fun q => M q j) (show h0 + 1 + 7 + i = h0 + (8 + i) by omega)).trans (hM (8 + i) j (by omega) (by omega))) hb) tn_X7_20 im_X5 ini_X5 co_X5 (by decide) rfl (by decide) (by decide) (by omega) (by omega) (lt_one (by omega)) (by omega) (by omega) (Nat.le_of_ble_eq_true rfl) dX7_init_16 dX7_init_19 dX7_init_20 ?_
  refine n_putF (v := .ref (h0 + 8)) (ty := .object "TramWires$Service") cx (ci := 7) rfl in_X7 tyX7 tyX7_ok nmX7 (d_one hA) 0 rfl 1 (by decide) tf_X7_21 rfl rfl hnm rfl (by decide +kernel) rfl rfl (by show _ < 5; decide) dX7_init_23 ?_
  refine n_aload_n cx dX7_init_26 rfl 0 rfl ?_
  refine n_newN cx (ci := 1) rfl in_X1 tyX1 tyX1_ok cl_X7_25 ins_X1 ini_X1 df_X1 (k_X1 (LWires_log hL) (fun i j hi => (congrArg (fun q => M q j) (show h0 + 1 + 7 + 8 + i = h0 + (16 + i) by omega)).trans (hM (16 + i) j (by omega) (by omega)))) tn_X7_27 im_X1 ini_X1 co_X1 (by decide) rfl (by decide) (by decide) (by omega) (by omega) (lt_one (by omega)) (by omega) (by omega) (Nat.le_of_ble_eq_true rfl) dX7_init_27 dX7_init_30 dX7_init_31 ?_
  refine n_putF (v := .ref (h0 + 16)) (ty := .object "TramWires$Log") cx (ci := 7) rfl in_X7 tyX7 tyX7_ok nmX7 (d_one hA) 0 rfl 2 (by decide) tf_X7_28 rfl rfl hnm rfl (by decide +kernel) rfl rfl (by show _ < 5; decide) dX7_init_34 ?_
  refine n_aload_n cx dX7_init_37 rfl 0 rfl ?_
  refine n_newN cx (ci := 2) rfl in_X2 tyX2 tyX2_ok cl_X7_9 ins_X2 ini_X2 df_X2 (k_X2 (LWires_supposed hL) (fun i j hi => (congrArg (fun q => M q j) (show h0 + 1 + 7 + 8 + 8 + i = h0 + (24 + i) by omega)).trans (hM (24 + i) j (by omega) (by omega)))) tn_X7_11 im_X2 ini_X2 co_X2 (by decide) rfl (by decide) (by decide) (by omega) (by omega) (lt_one (by omega)) (by omega) (by omega) (Nat.le_of_ble_eq_true rfl) dX7_init_38 dX7_init_41 dX7_init_42 ?_
  refine n_putF (v := .ref (h0 + 24)) (ty := .object "TramWires$Net") cx (ci := 7) rfl in_X7 tyX7 tyX7_ok nmX7 (d_one hA) 0 rfl 3 (by decide) tf_X7_32 rfl rfl hnm rfl (by decide +kernel) rfl rfl (by show _ < 5; decide) dX7_init_45 ?_
  refine n_aload_n cx dX7_init_48 rfl 0 rfl ?_
  refine n_bipush (v := nI 10) cx dX7_init_49 (by decide) ?_
  refine n_newa (x := nI 10) (N := 10) cx (atype := .boolean) ar_Z (by decide) (by decide) (by decide) (by omega) (by omega) (by omega) (lt_one (by omega)) (ce_Z cx (LWires_reached hL) (fun j => hM 31 j (by omega) (by omega))) dX7_init_51 ?_
  refine n_putF (v := .ref (h0 + 31)) (ty := .array .boolean) cx (ci := 7) rfl in_X7 tyX7 tyX7_ok nmX7 (d_one hA) 0 rfl 4 (by decide) tf_X7_35 rfl rfl hnm rfl (by decide +kernel) rfl rfl (by show _ < 5; decide) dX7_init_53 ?_
  refine n_vret cx en rfl (fun g hg => ?_) dX7_init_56
  rw [LWires_o hL] at hg
  cases hg
  show (Sum.inr (7, fO (ksWires h0) (M h0)) : va_E) = _
  congr 2
theorem k_X4 (hL : LRehearsal w L h0) (hM : ∀ i j, i < 33 → ¬ (i = 9 ∧ j = 1) → M (h0 + i) j = nI 0) (hb : M (h0 + 9) 1 = nI 12) : CN l w L M yX4_init cX4_init 1 3 4 [.null, .int 0, .int 0, .int 0] 33 400 h0 := by
  refine CN_of (by decide +kernel) rfl (Nat.le_refl _) fun E cx en => ?_
  have hA : xF E h0 := (cx.2.2.2.2.2.2.1 h0).mp (Nat.le_refl _)
  have ec : (xR E).cells = 32 := en.2.2.2.2.2.1
  have es : (xR E).slots = 400 := en.2.2.2.2.2.2
  have hnm := en.2.2.2.2.1
  refine n_aload_n cx dX4_init_0 rfl 0 rfl ?_
  refine n_obj cx ob_X4 ob_i ob_c (by decide) dX4_init_1 ?_ (by decide)
  refine n_aload_n cx dX4_init_4 rfl 0 rfl ?_
  refine n_newN cx (ci := 7) rfl in_X7 tyX7 tyX7_ok cl_X4_9 ins_X7 ini_X7 df_X7 (k_X7 (LRehearsal_wires hL) (fun i j hi y0 => (congrArg (fun q => M q j) (show h0 + 1 + i = h0 + (1 + i) by omega)).trans (hM (1 + i) j (by omega) (by omega))) hb) tn_X4_11 im_X7 ini_X7 co_X7 (by decide) rfl (by decide) (by decide) (by omega) (by omega) (lt_one (by omega)) (by omega) (by omega) (Nat.le_of_ble_eq_true rfl) dX4_init_5 dX4_init_8 dX4_init_9 ?_
  refine n_putF (v := .ref (h0 + 1)) (ty := .object "TramWires$Wires") cx (ci := 4) rfl in_X4 tyX4 tyX4_ok nmX4 (d_one hA) 0 rfl 0 (by decide) tf_X4_12 rfl rfl hnm rfl (by decide +kernel) rfl rfl (by show _ < 4; decide) dX4_init_12 ?_
  refine n_vret cx en rfl (fun g hg => ?_) dX4_init_15
  rw [LRehearsal_o hL] at hg
  cases hg
  show (Sum.inr (4, fO (ksRehearsal h0) (M h0)) : va_E) = _
  congr 2
  refine fO_c (fun k hk => ?_) rfl
  have hk : k < 4 := hk
  match k, hk with
  | 0, _ => rfl
  | 1, _ => show some (Value.int 0) = some (Value.int (M h0 1)); rw [show M h0 1 = nI 0 from hM 0 1 (by omega) (by omega)]; rfl
  | 2, _ => show some (Value.int 0) = some (Value.int (M h0 2)); rw [show M h0 2 = nI 0 from hM 0 2 (by omega) (by omega)]; rfl
  | 3, _ => show some (Value.int 0) = some (Value.int (M h0 3)); rw [show M h0 3 = nI 0 from hM 0 3 (by omega) (by omega)]; rfl
  | k + 4, h => omega
end CT6
