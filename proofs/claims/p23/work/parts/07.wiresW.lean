/-! X0_dropOldest -/
def l_X0_dropOldest_9 (a0 : Nat) (r1 : Int32) : Nat → Mm → Int32 → OR
  | 0, _, _ => none
  | k + 1, M, x2 => if x2 < 5 then ckd x2 5 (bnd (M (a0 + 1) (ix x2)) fun u1 => wck u1 (ckd (x2 - 1) 5 (bnd (mst M (a0 + 1) (ix (x2 - 1)) u1) fun M2 => l_X0_dropOldest_9 a0 r1 k M2 (x2 + 1)))) else ckd 4 5 (bnd (mst M (a0 + 1) (ix 4) r1) fun M3 => bnd (mst M3 a0 0 4) fun M4 => some (0, M4))
def f_X0_dropOldest (a0 : Nat) (M : Mm) : OR := ckd 0 5 (bnd (M (a0 + 1) (ix 0)) fun u1 => wck u1 (l_X0_dropOldest_9 a0 u1 FU M 1))
set_option maxHeartbeats 4000000 in
set_option maxRecDepth 100000 in
theorem w_X0_dropOldest_9 {l : Launch} {w : Wp} {L : Ly} {E : Cx} {a0 : Nat} {r1 : Int32} {R0 : Int32 × Mm} (cx : Ok w L E RX0 cX0_dropOldest 3 0) (en : En w L E none R0) (h0 : LHistory w L (a0)) (hw_r1 : ix r1 < 5) : ∀ (k : Nat) {M : Mm} {x2 : Int32}, l_X0_dropOldest_9 a0 r1 k M x2 = some R0 → G l w L E M [(0, .ref a0), (1, .ref (a0 + 2 + 32 * ix r1)), (2, .int x2)] 9 [] := by
  intro k
  induction k with
  | zero =>
    intro M x2 hf
    exact absurd hf (by simp [l_X0_dropOldest_9])
  | succ k ih =>
    intro M x2 hf
    unfold l_X0_dropOldest_9 at hf
    refine g_iload_n (pc := 9) cx dX0_dropOldest_9 rfl 2 rfl ?_
    refine g_iconst (pc := 10) (v := 5) cx dX0_dropOldest_10 (by decide) ?_
    refine g_icmp_ge (pc := 11) (tgt := 34) cx dX0_dropOldest_11 rfl hf (fun hf => ?_) (fun hf => ?_)
    · refine g_aload_n (pc := 14) cx dX0_dropOldest_14 rfl 0 rfl ?_
      refine fg_X0_11 (pc := 15) cx dX0_dropOldest_15 h0 ?_
      refine g_iload_n (pc := 18) cx dX0_dropOldest_18 rfl 2 rfl ?_
      refine g_iconst (pc := 19) (v := 1) cx dX0_dropOldest_19 (by decide) ?_
      refine g_isub (pc := 20) cx dX0_dropOldest_20 ?_
      refine g_aload_n (pc := 21) cx dX0_dropOldest_21 rfl 0 rfl ?_
      refine fg_X0_11 (pc := 22) cx dX0_dropOldest_22 h0 ?_
      refine g_iload_n (pc := 25) cx dX0_dropOldest_25 rfl 2 rfl ?_
      refine g_aaldH (pc := 26) cx (LHistory_states h0) (LHistory_b h0) dX0_dropOldest_26 hf (fun u1 hw_u1 hf => ?_)
      refine g_aastH (pc := 27) (j := u1) cx (LHistory_states h0) (LHistory_b h0) (LWires_o (LHistory_w h0 _ hw_u1)) dX0_dropOldest_27 hf (fun M2 hf => ?_)
      refine g_iinc (pc := 28) cx [(2, .int (x2 + 1)), (0, .ref a0), (1, .ref (a0 + 2 + 32 * ix r1))] dX0_dropOldest_28 2 rfl rfl (by decide) rfl ?_
      refine g_goto (pc := 31) (tgt := 9) cx dX0_dropOldest_31 rfl ?_
      refine g_sub [1, 2, 0] [(0, .ref a0), (1, .ref (a0 + 2 + 32 * ix r1)), (2, .int (x2 + 1))] rfl ?_
      exact ih hf
    · refine g_aload_n (pc := 34) cx dX0_dropOldest_34 rfl 0 rfl ?_
      refine fg_X0_11 (pc := 35) cx dX0_dropOldest_35 h0 ?_
      refine g_iconst (pc := 38) (v := 4) cx dX0_dropOldest_38 (by decide) ?_
      refine g_aload_n (pc := 39) cx dX0_dropOldest_39 rfl 1 rfl ?_
      refine g_aastH (pc := 40) (j := r1) cx (LHistory_states h0) (LHistory_b h0) (LWires_o (LHistory_w h0 _ hw_r1)) dX0_dropOldest_40 hf (fun M3 hf => ?_)
      refine g_aload_n (pc := 41) cx dX0_dropOldest_41 rfl 0 rfl ?_
      refine g_iconst (pc := 42) (v := 4) cx dX0_dropOldest_42 (by decide) ?_
      refine fp_X0_18 (pc := 43) cx dX0_dropOldest_43 h0 hf (fun M4 hf => ?_)
      exact g_vret (pc := 46) cx en dX0_dropOldest_46 hf
set_option maxHeartbeats 4000000 in
set_option maxRecDepth 100000 in
theorem c_X0_dropOldest {l : Launch} {w : Wp} {L : Ly} {a0 : Nat} {M : Mm} {R0 : Int32 × Mm} (h0 : LHistory w L (a0)) (hf : f_X0_dropOldest a0 M = some R0) : CT l w L yX0_dropOldest cX0_dropOldest 3 none 0 [.ref a0] M R0 := by
  unfold f_X0_dropOldest at hf
  refine CT_of pn_X0 (Nat.le_of_ble_eq_true rfl) (fun E cx en => ?_)
  have cx : Ok w L E RX0 cX0_dropOldest 3 0 := cx
  show G l w L E M [(0, .ref a0)] 0 []
  refine g_aload_n (pc := 0) cx dX0_dropOldest_0 rfl 0 rfl ?_
  refine fg_X0_11 (pc := 1) cx dX0_dropOldest_1 h0 ?_
  refine g_iconst (pc := 4) (v := 0) cx dX0_dropOldest_4 (by decide) ?_
  refine g_aaldH (pc := 5) cx (LHistory_states h0) (LHistory_b h0) dX0_dropOldest_5 hf (fun u1 hw_u1 hf => ?_)
  refine g_astore_n (pc := 6) cx [(1, .ref (a0 + 2 + 32 * ix u1)), (0, .ref a0)] dX0_dropOldest_6 rfl (by decide) rfl ?_
  refine g_iconst (pc := 7) (v := 1) cx dX0_dropOldest_7 (by decide) ?_
  refine g_istore_n (pc := 8) cx [(2, .int 1), (1, .ref (a0 + 2 + 32 * ix u1)), (0, .ref a0)] dX0_dropOldest_8 rfl (by decide) rfl ?_
  refine g_sub [2, 1, 0] [(0, .ref a0), (1, .ref (a0 + 2 + 32 * ix u1)), (2, .int 1)] rfl ?_
  exact w_X0_dropOldest_9 cx en h0 hw_u1 FU hf
/-! X7_copyFrom -/
def f_X7_copyFrom (a0 a1 : Nat) (M : Mm) : OR := obn (f_X2_copyFrom (a0 + 1) (a1 + 1) M) fun _ M1 => (obn (f_X5_copyFrom (a0 + 8) (a1 + 8) M1) fun _ M4 => (obn (f_X1_copyFrom (a0 + 16) (a1 + 16) M4) fun _ M7 => (some (0, M7))))
set_option maxHeartbeats 4000000 in
set_option maxRecDepth 100000 in
theorem c_X7_copyFrom {l : Launch} {w : Wp} {L : Ly} {a0 a1 : Nat} {M : Mm} {R0 : Int32 × Mm} (h0 : LWires w L (a0)) (h1 : LWires w L (a1)) (hf : f_X7_copyFrom a0 a1 M = some R0) : CT l w L yX7_copyFrom cX7_copyFrom 2 none 2 [.ref a0, .ref a1] M R0 := by
  unfold f_X7_copyFrom at hf
  refine CT_of pn_X7 (Nat.le_of_ble_eq_true rfl) (fun E cx en => ?_)
  have cx : Ok w L E RX7 cX7_copyFrom 2 2 := cx
  show G l w L E M [(0, .ref a0), (1, .ref a1)] 0 []
  refine g_aload_n (pc := 0) cx dX7_copyFrom_0 rfl 0 rfl ?_
  refine fg_X7_12 (pc := 1) cx dX7_copyFrom_1 h0 ?_
  refine g_aload_n (pc := 4) cx dX7_copyFrom_4 rfl 1 rfl ?_
  refine fg_X7_12 (pc := 5) cx dX7_copyFrom_5 h1 ?_
  obtain ⟨q3, M1, hc2, hf⟩ := obn_some2 hf
  refine g_callVv (pc := 8) [.ref (a1 + 1)] [] cx lk_X7_39 vw_X2 (LNet_o (LWires_net h0)) (by decide) (c_X2_copyFrom (LWires_net h0) (LWires_net h1) hc2) dX7_copyFrom_8 (Nat.le_of_ble_eq_true rfl) ?_
  refine g_aload_n (pc := 11) cx dX7_copyFrom_11 rfl 0 rfl ?_
  refine fg_X7_21 (pc := 12) cx dX7_copyFrom_12 h0 ?_
  refine g_aload_n (pc := 15) cx dX7_copyFrom_15 rfl 1 rfl ?_
  refine fg_X7_21 (pc := 16) cx dX7_copyFrom_16 h1 ?_
  obtain ⟨q6, M4, hc5, hf⟩ := obn_some2 hf
  refine g_callVv (pc := 19) [.ref (a1 + 8)] [] cx lk_X7_43 vw_X5 (LService_o (LWires_service h0)) (by decide) (c_X5_copyFrom (LWires_service h0) (LWires_service h1) hc5) dX7_copyFrom_19 (Nat.le_of_ble_eq_true rfl) ?_
  refine g_aload_n (pc := 22) cx dX7_copyFrom_22 rfl 0 rfl ?_
  refine fg_X7_28 (pc := 23) cx dX7_copyFrom_23 h0 ?_
  refine g_aload_n (pc := 26) cx dX7_copyFrom_26 rfl 1 rfl ?_
  refine fg_X7_28 (pc := 27) cx dX7_copyFrom_27 h1 ?_
  obtain ⟨q9, M7, hc8, hf⟩ := obn_some2 hf
  refine g_callVv (pc := 30) [.ref (a1 + 16)] [] cx lk_X7_46 vw_X1 (LLog_o (LWires_log h0)) (by decide) (c_X1_copyFrom (LWires_log h0) (LWires_log h1) hc8) dX7_copyFrom_30 (Nat.le_of_ble_eq_true rfl) ?_
  exact g_vret (pc := 33) cx en dX7_copyFrom_33 hf
/-! X0_keep -/
def b_X0_keep_12 (a0 a1 : Nat) (M : Mm) : OR := ckd (M a0 0) 5 (bnd (M (a0 + 1) (ix (M a0 0))) fun u1 => wck u1 (obn (f_X7_copyFrom (a0 + 2 + 32 * ix u1) a1 M) fun _ M2 => (bnd (mst M2 a0 0 ((M2 a0 0) + 1)) fun M5 => some (0, M5))))
def f_X0_keep (a0 a1 : Nat) (M : Mm) : OR := if (M a0 0) < 5 then b_X0_keep_12 a0 a1 M else obn (f_X0_dropOldest a0 M) fun _ M1 => (b_X0_keep_12 a0 a1 M1)
set_option maxHeartbeats 4000000 in
set_option maxRecDepth 100000 in
theorem w_X0_keep_12 {l : Launch} {w : Wp} {L : Ly} {E : Cx} {a0 a1 : Nat} {R0 : Int32 × Mm} (cx : Ok w L E RX0 cX0_keep 2 3) (en : En w L E none R0) (h0 : LHistory w L (a0)) (h1 : LWires w L (a1)) {M : Mm} (hf : b_X0_keep_12 a0 a1 M = some R0) : G l w L E M [(0, .ref a0), (1, .ref a1)] 12 [] := by
  unfold b_X0_keep_12 at hf
  refine g_aload_n (pc := 12) cx dX0_keep_12 rfl 0 rfl ?_
  refine fg_X0_11 (pc := 13) cx dX0_keep_13 h0 ?_
  refine g_aload_n (pc := 16) cx dX0_keep_16 rfl 0 rfl ?_
  refine fg_X0_18 (pc := 17) cx dX0_keep_17 h0 ?_
  refine g_aaldH (pc := 20) cx (LHistory_states h0) (LHistory_b h0) dX0_keep_20 hf (fun u1 hw_u1 hf => ?_)
  refine g_aload_n (pc := 21) cx dX0_keep_21 rfl 1 rfl ?_
  obtain ⟨q4, M2, hc3, hf⟩ := obn_some2 hf
  refine g_callVv (pc := 22) [.ref a1] [] cx lk_X0_25 vw_X7 (LWires_o (LHistory_w h0 _ hw_u1)) (by decide) (c_X7_copyFrom (LHistory_w h0 _ hw_u1) h1 hc3) dX0_keep_22 (Nat.le_of_ble_eq_true rfl) ?_
  refine g_aload_n (pc := 25) cx dX0_keep_25 rfl 0 rfl ?_
  refine g_dup (pc := 26) cx dX0_keep_26 rfl ?_
  refine fg_X0_18 (pc := 27) cx dX0_keep_27 h0 ?_
  refine g_iconst (pc := 30) (v := 1) cx dX0_keep_30 (by decide) ?_
  refine g_iadd (pc := 31) cx dX0_keep_31 ?_
  refine fp_X0_18 (pc := 32) cx dX0_keep_32 h0 hf (fun M5 hf => ?_)
  exact g_vret (pc := 35) cx en dX0_keep_35 hf
set_option maxHeartbeats 4000000 in
set_option maxRecDepth 100000 in
theorem c_X0_keep {l : Launch} {w : Wp} {L : Ly} {a0 a1 : Nat} {M : Mm} {R0 : Int32 × Mm} (h0 : LHistory w L (a0)) (h1 : LWires w L (a1)) (hf : f_X0_keep a0 a1 M = some R0) : CT l w L yX0_keep cX0_keep 2 none 3 [.ref a0, .ref a1] M R0 := by
  unfold f_X0_keep at hf
  refine CT_of pn_X0 (Nat.le_of_ble_eq_true rfl) (fun E cx en => ?_)
  have cx : Ok w L E RX0 cX0_keep 2 3 := cx
  show G l w L E M [(0, .ref a0), (1, .ref a1)] 0 []
  refine g_aload_n (pc := 0) cx dX0_keep_0 rfl 0 rfl ?_
  refine fg_X0_18 (pc := 1) cx dX0_keep_1 h0 ?_
  refine g_iconst (pc := 4) (v := 5) cx dX0_keep_4 (by decide) ?_
  refine g_icmp_lt (pc := 5) (tgt := 12) cx dX0_keep_5 rfl hf (fun hf => ?_) (fun hf => ?_)
  · exact w_X0_keep_12 cx en h0 h1 hf
  · refine g_aload_n (pc := 8) cx dX0_keep_8 rfl 0 rfl ?_
    obtain ⟨q3, M1, hc2, hf⟩ := obn_some2 hf
    refine g_callVv (pc := 9) [] [] cx lk_X0_22 vw_X0 (LHistory_o h0) (by decide) (c_X0_dropOldest h0 hc2) dX0_keep_9 (Nat.le_of_ble_eq_true rfl) ?_
    exact w_X0_keep_12 cx en h0 h1 hf
/-! X0_restore -/
def f_X0_restore (a0 a1 : Nat) (M : Mm) : OR := bnd (mst M a0 0 ((M a0 0) - 1)) fun M1 => ckd (M1 a0 0) 5 (bnd (M1 (a0 + 1) (ix (M1 a0 0))) fun u2 => wck u2 (obn (f_X7_copyFrom a1 (a0 + 2 + 32 * ix u2) M1) fun _ M3 => (some (0, M3))))
set_option maxHeartbeats 4000000 in
set_option maxRecDepth 100000 in
theorem c_X0_restore {l : Launch} {w : Wp} {L : Ly} {a0 a1 : Nat} {M : Mm} {R0 : Int32 × Mm} (h0 : LHistory w L (a0)) (h1 : LWires w L (a1)) (hf : f_X0_restore a0 a1 M = some R0) : CT l w L yX0_restore cX0_restore 2 none 3 [.ref a0, .ref a1] M R0 := by
  unfold f_X0_restore at hf
  refine CT_of pn_X0 (Nat.le_of_ble_eq_true rfl) (fun E cx en => ?_)
  have cx : Ok w L E RX0 cX0_restore 2 3 := cx
  show G l w L E M [(0, .ref a0), (1, .ref a1)] 0 []
  refine g_aload_n (pc := 0) cx dX0_restore_0 rfl 0 rfl ?_
  refine g_dup (pc := 1) cx dX0_restore_1 rfl ?_
  refine fg_X0_18 (pc := 2) cx dX0_restore_2 h0 ?_
  refine g_iconst (pc := 5) (v := 1) cx dX0_restore_5 (by decide) ?_
  refine g_isub (pc := 6) cx dX0_restore_6 ?_
  refine fp_X0_18 (pc := 7) cx dX0_restore_7 h0 hf (fun M1 hf => ?_)
  refine g_aload_n (pc := 10) cx dX0_restore_10 rfl 1 rfl ?_
  refine g_aload_n (pc := 11) cx dX0_restore_11 rfl 0 rfl ?_
  refine fg_X0_11 (pc := 12) cx dX0_restore_12 h0 ?_
  refine g_aload_n (pc := 15) cx dX0_restore_15 rfl 0 rfl ?_
  refine fg_X0_18 (pc := 16) cx dX0_restore_16 h0 ?_
  refine g_aaldH (pc := 19) cx (LHistory_states h0) (LHistory_b h0) dX0_restore_19 hf (fun u2 hw_u2 hf => ?_)
  obtain ⟨q5, M3, hc4, hf⟩ := obn_some2 hf
  refine g_callVv (pc := 20) [.ref (a0 + 2 + 32 * ix u2)] [] cx lk_X0_25 vw_X7 (LWires_o h1) (by decide) (c_X7_copyFrom h1 (LHistory_w h0 _ hw_u2) hc4) dX0_restore_20 (Nat.le_of_ble_eq_true rfl) ?_
  exact g_vret (pc := 23) cx en dX0_restore_23 hf
/-! X3_add -/
def f_X3_add (a0 : Nat) (M : Mm) (x1 : Int32) (x2 : Int32) : OR := ckd (M a0 0) 19 (bnd (mst M (a0 + 1) (ix (M a0 0)) x1) fun M1 => ckd (M1 a0 0) 19 (bnd (mst M1 (a0 + 2) (ix (M1 a0 0)) x2) fun M2 => bnd (mst M2 a0 0 ((M2 a0 0) + 1)) fun M3 => some (0, M3)))
set_option maxHeartbeats 4000000 in
set_option maxRecDepth 100000 in
theorem c_X3_add {l : Launch} {w : Wp} {L : Ly} {a0 : Nat} {M : Mm} {x1 : Int32} {x2 : Int32} {R0 : Int32 × Mm} (h0 : LPlan w L (a0)) (hf : f_X3_add a0 M x1 x2 = some R0) : CT l w L yX3_add cX3_add 3 none 0 [.ref a0, .int x1, .int x2] M R0 := by
  unfold f_X3_add at hf
  refine CT_of pn_X3 (Nat.le_of_ble_eq_true rfl) (fun E cx en => ?_)
  have cx : Ok w L E RX3 cX3_add 3 0 := cx
  show G l w L E M [(0, .ref a0), (1, .int x1), (2, .int x2)] 0 []
  refine g_aload_n (pc := 0) cx dX3_add_0 rfl 0 rfl ?_
  refine fg_X3_9 (pc := 1) cx dX3_add_1 h0 ?_
  refine g_aload_n (pc := 4) cx dX3_add_4 rfl 0 rfl ?_
  refine fg_X3_18 (pc := 5) cx dX3_add_5 h0 ?_
  refine g_iload_n (pc := 8) cx dX3_add_8 rfl 1 rfl ?_
  refine g_iast (pc := 9) cx (LPlan_kinds h0) dX3_add_9 hf (fun M1 hf => ?_)
  refine g_aload_n (pc := 10) cx dX3_add_10 rfl 0 rfl ?_
  refine fg_X3_15 (pc := 11) cx dX3_add_11 h0 ?_
  refine g_aload_n (pc := 14) cx dX3_add_14 rfl 0 rfl ?_
  refine fg_X3_18 (pc := 15) cx dX3_add_15 h0 ?_
  refine g_iload_n (pc := 18) cx dX3_add_18 rfl 2 rfl ?_
  refine g_iast (pc := 19) cx (LPlan_places h0) dX3_add_19 hf (fun M2 hf => ?_)
  refine g_aload_n (pc := 20) cx dX3_add_20 rfl 0 rfl ?_
  refine g_dup (pc := 21) cx dX3_add_21 rfl ?_
  refine fg_X3_18 (pc := 22) cx dX3_add_22 h0 ?_
  refine g_iconst (pc := 25) (v := 1) cx dX3_add_25 (by decide) ?_
  refine g_iadd (pc := 26) cx dX3_add_26 ?_
  refine fp_X3_18 (pc := 27) cx dX3_add_27 h0 hf (fun M3 hf => ?_)
  exact g_vret (pc := 30) cx en dX3_add_30 hf
/-! X3_drawUp -/
def b_X3_drawUp_73 (a0 a1 : Nat) (rc44 : Mm → Int32 → OR) (M : Mm) (x2 : Int32) (x3 : Int32) : OR := rc44 M (x3 + 1)
def b_X3_drawUp_98 (a0 a1 : Nat) (M : Mm) : OR := some (0, M)
def l_X3_drawUp_44 (a0 a1 : Nat) (x2 : Int32) : Nat → Mm → Int32 → OR
  | 0, _, _ => none
  | k + 1, M, x3 => if x3 < (M (a1 + 1) 1) then obn (f_X2_isClosedAt (a1 + 1) M x3 x2) fun q3 M1 => (if q3 = 0 then b_X3_drawUp_73 a0 a1 (l_X3_drawUp_44 a0 a1 x2 k) M1 x2 x3 else obn (f_X3_add a0 M1 2 x3) fun _ M4 => (b_X3_drawUp_73 a0 a1 (l_X3_drawUp_44 a0 a1 x2 k) M4 x2 x3)) else ckd x2 10 (if (zb (M ((a1 + 8) + 3) (ix x2))) = 0 then obn (f_X3_add a0 M 6 x2) fun _ M7 => (b_X3_drawUp_98 a0 a1 M7) else b_X3_drawUp_98 a0 a1 M)
def b_X3_drawUp_42 (a0 a1 : Nat) (M : Mm) (x2 : Int32) : OR := l_X3_drawUp_44 a0 a1 x2 FU M 0
def b_X3_drawUp_23 (a0 a1 : Nat) (M : Mm) (x2 : Int32) : OR := ckd x2 10 (if (M ((a1 + 1) + 1) (ix x2)) = 2 then obn (f_X3_add a0 M 4 x2) fun _ M1 => (b_X3_drawUp_42 a0 a1 M1 x2) else b_X3_drawUp_42 a0 a1 M x2)
def f_X3_drawUp (a0 a1 : Nat) (M : Mm) (x2 : Int32) : OR := bnd (mst M a0 0 0) fun M1 => ckd x2 10 (if (zb (M1 ((a1 + 8) + 2) (ix x2))) = 0 then obn (f_X3_add a0 M1 0 x2) fun _ M2 => (b_X3_drawUp_23 a0 a1 M2 x2) else b_X3_drawUp_23 a0 a1 M1 x2)
set_option maxHeartbeats 4000000 in
set_option maxRecDepth 100000 in
theorem w_X3_drawUp_73 {l : Launch} {w : Wp} {L : Ly} {E : Cx} {a0 a1 : Nat} {rc44 : Mm → Int32 → OR} {x2 : Int32} {x3 : Int32} {R0 : Int32 × Mm} (cx : Ok w L E RX3 cX3_drawUp 4 1) (en : En w L E none R0) (h0 : LPlan w L (a0)) (h1 : LWires w L (a1)) (hrc44 : ∀ (M : Mm) (x3 : Int32), rc44 M x3 = some R0 → G l w L E M [(0, .ref a0), (1, .ref a1), (2, .int x2), (3, .int x3)] 44 []) {M : Mm} (hf : b_X3_drawUp_73 a0 a1 rc44 M x2 x3 = some R0) : G l w L E M [(0, .ref a0), (1, .ref a1), (2, .int x2), (3, .int x3)] 73 [] := by
  unfold b_X3_drawUp_73 at hf
  refine g_iinc (pc := 73) cx [(3, .int (x3 + 1)), (0, .ref a0), (1, .ref a1), (2, .int x2)] dX3_drawUp_73 3 rfl rfl (by decide) rfl ?_
  refine g_goto (pc := 76) (tgt := 44) cx dX3_drawUp_76 rfl ?_
  refine g_sub [1, 2, 3, 0] [(0, .ref a0), (1, .ref a1), (2, .int x2), (3, .int (x3 + 1))] rfl ?_
  exact hrc44 _ _ hf
set_option maxHeartbeats 4000000 in
set_option maxRecDepth 100000 in
theorem w_X3_drawUp_98 {l : Launch} {w : Wp} {L : Ly} {E : Cx} {a0 a1 : Nat} {R0 : Int32 × Mm} (cx : Ok w L E RX3 cX3_drawUp 4 1) (en : En w L E none R0) (h0 : LPlan w L (a0)) (h1 : LWires w L (a1)) {M : Mm} (hf : b_X3_drawUp_98 a0 a1 M = some R0) : G l w L E M [] 98 [] := by
  unfold b_X3_drawUp_98 at hf
  exact g_vret (pc := 98) cx en dX3_drawUp_98 hf
set_option maxHeartbeats 4000000 in
set_option maxRecDepth 100000 in
theorem w_X3_drawUp_44 {l : Launch} {w : Wp} {L : Ly} {E : Cx} {a0 a1 : Nat} {x2 : Int32} {R0 : Int32 × Mm} (cx : Ok w L E RX3 cX3_drawUp 4 1) (en : En w L E none R0) (h0 : LPlan w L (a0)) (h1 : LWires w L (a1)) : ∀ (k : Nat) {M : Mm} {x3 : Int32}, l_X3_drawUp_44 a0 a1 x2 k M x3 = some R0 → G l w L E M [(0, .ref a0), (1, .ref a1), (2, .int x2), (3, .int x3)] 44 [] := by
  intro k
  induction k with
  | zero =>
    intro M x3 hf
    exact absurd hf (by simp [l_X3_drawUp_44])
  | succ k ih =>
    intro M x3 hf
    unfold l_X3_drawUp_44 at hf
    refine g_iload_n (pc := 44) cx dX3_drawUp_44 rfl 3 rfl ?_
    refine g_aload_n (pc := 45) cx dX3_drawUp_45 rfl 1 rfl ?_
    refine fg_X3_38 (pc := 46) cx dX3_drawUp_46 h1 ?_
    refine fg_X3_47 (pc := 49) cx dX3_drawUp_49 (LWires_net h1) ?_
    refine g_icmp_ge (pc := 52) (tgt := 79) cx dX3_drawUp_52 rfl hf (fun hf => ?_) (fun hf => ?_)
    · refine g_aload_n (pc := 55) cx dX3_drawUp_55 rfl 1 rfl ?_
      refine fg_X3_38 (pc := 56) cx dX3_drawUp_56 h1 ?_
      refine g_iload_n (pc := 59) cx dX3_drawUp_59 rfl 3 rfl ?_
      refine g_iload_n (pc := 60) cx dX3_drawUp_60 rfl 2 rfl ?_
      obtain ⟨q3, M1, hc2, hf⟩ := obn_some2 hf
      refine g_callVi (pc := 61) [.int x3, .int x2] [] cx lk_X3_50 vw_X2 (LNet_o (LWires_net h1)) (by decide) (c_X2_isClosedAt (LWires_net h1) hc2) dX3_drawUp_61 (Nat.le_of_ble_eq_true rfl) ?_
      refine g_if_eq (pc := 64) (tgt := 73) cx dX3_drawUp_64 rfl hf (fun hf => ?_) (fun hf => ?_)
      · exact w_X3_drawUp_73 cx en h0 h1 (fun _ _ hf => ih hf) hf
      · refine g_aload_n (pc := 67) cx dX3_drawUp_67 rfl 0 rfl ?_
        refine g_iconst (pc := 68) (v := 2) cx dX3_drawUp_68 (by decide) ?_
        refine g_iload_n (pc := 69) cx dX3_drawUp_69 rfl 3 rfl ?_
        obtain ⟨q6, M4, hc5, hf⟩ := obn_some2 hf
        refine g_callVv (pc := 70) [.int 2, .int x3] [] cx lk_X3_34 vw_X3 (LPlan_o h0) (by decide) (c_X3_add h0 hc5) dX3_drawUp_70 (Nat.le_of_ble_eq_true rfl) ?_
        exact w_X3_drawUp_73 cx en h0 h1 (fun _ _ hf => ih hf) hf
    · refine g_aload_n (pc := 79) cx dX3_drawUp_79 rfl 1 rfl ?_
      refine fg_X3_22 (pc := 80) cx dX3_drawUp_80 h1 ?_
      refine fg_X3_54 (pc := 83) cx dX3_drawUp_83 (LWires_service h1) ?_
      refine g_iload_n (pc := 86) cx dX3_drawUp_86 rfl 2 rfl ?_
      refine g_zald (pc := 87) cx (LService_earthed (LWires_service h1)) dX3_drawUp_87 hf (fun hf => ?_)
      refine g_if_ne (pc := 88) (tgt := 98) cx dX3_drawUp_88 rfl hf (fun hf => ?_) (fun hf => ?_)
      · refine g_aload_n (pc := 91) cx dX3_drawUp_91 rfl 0 rfl ?_
        refine g_bipush (pc := 92) (v := 6) cx dX3_drawUp_92 (by decide) ?_
        refine g_iload_n (pc := 94) cx dX3_drawUp_94 rfl 2 rfl ?_
        obtain ⟨q9, M7, hc8, hf⟩ := obn_some2 hf
        refine g_callVv (pc := 95) [.int 6, .int x2] [] cx lk_X3_34 vw_X3 (LPlan_o h0) (by decide) (c_X3_add h0 hc8) dX3_drawUp_95 (Nat.le_of_ble_eq_true rfl) ?_
        refine g_sub [] [] rfl ?_
        exact w_X3_drawUp_98 cx en h0 h1 hf
      · refine g_sub [] [] rfl ?_
        exact w_X3_drawUp_98 cx en h0 h1 hf
set_option maxHeartbeats 4000000 in
set_option maxRecDepth 100000 in
theorem w_X3_drawUp_42 {l : Launch} {w : Wp} {L : Ly} {E : Cx} {a0 a1 : Nat} {x2 : Int32} {R0 : Int32 × Mm} (cx : Ok w L E RX3 cX3_drawUp 4 1) (en : En w L E none R0) (h0 : LPlan w L (a0)) (h1 : LWires w L (a1)) {M : Mm} (hf : b_X3_drawUp_42 a0 a1 M x2 = some R0) : G l w L E M [(0, .ref a0), (1, .ref a1), (2, .int x2)] 42 [] := by
  unfold b_X3_drawUp_42 at hf
  refine g_iconst (pc := 42) (v := 0) cx dX3_drawUp_42 (by decide) ?_
  refine g_istore_n (pc := 43) cx [(3, .int 0), (0, .ref a0), (1, .ref a1), (2, .int x2)] dX3_drawUp_43 rfl (by decide) rfl ?_
  refine g_sub [1, 2, 3, 0] [(0, .ref a0), (1, .ref a1), (2, .int x2), (3, .int 0)] rfl ?_
  exact w_X3_drawUp_44 cx en h0 h1 FU hf
set_option maxHeartbeats 4000000 in
set_option maxRecDepth 100000 in
theorem w_X3_drawUp_23 {l : Launch} {w : Wp} {L : Ly} {E : Cx} {a0 a1 : Nat} {x2 : Int32} {R0 : Int32 × Mm} (cx : Ok w L E RX3 cX3_drawUp 4 1) (en : En w L E none R0) (h0 : LPlan w L (a0)) (h1 : LWires w L (a1)) {M : Mm} (hf : b_X3_drawUp_23 a0 a1 M x2 = some R0) : G l w L E M [(0, .ref a0), (1, .ref a1), (2, .int x2)] 23 [] := by
  unfold b_X3_drawUp_23 at hf
  refine g_aload_n (pc := 23) cx dX3_drawUp_23 rfl 1 rfl ?_
  refine fg_X3_38 (pc := 24) cx dX3_drawUp_24 h1 ?_
  refine fg_X3_42 (pc := 27) cx dX3_drawUp_27 (LWires_net h1) ?_
  refine g_iload_n (pc := 30) cx dX3_drawUp_30 rfl 2 rfl ?_
  refine g_iald (pc := 31) cx (LNet_feeder (LWires_net h1)) dX3_drawUp_31 hf (fun hf => ?_)
  refine g_iconst (pc := 32) (v := 2) cx dX3_drawUp_32 (by decide) ?_
  refine g_icmp_ne (pc := 33) (tgt := 42) cx dX3_drawUp_33 rfl hf (fun hf => ?_) (fun hf => ?_)
  · refine g_aload_n (pc := 36) cx dX3_drawUp_36 rfl 0 rfl ?_
    refine g_iconst (pc := 37) (v := 4) cx dX3_drawUp_37 (by decide) ?_
    refine g_iload_n (pc := 38) cx dX3_drawUp_38 rfl 2 rfl ?_
    obtain ⟨q3, M1, hc2, hf⟩ := obn_some2 hf
    refine g_callVv (pc := 39) [.int 4, .int x2] [] cx lk_X3_34 vw_X3 (LPlan_o h0) (by decide) (c_X3_add h0 hc2) dX3_drawUp_39 (Nat.le_of_ble_eq_true rfl) ?_
    exact w_X3_drawUp_42 cx en h0 h1 hf
  · exact w_X3_drawUp_42 cx en h0 h1 hf
set_option maxHeartbeats 4000000 in
set_option maxRecDepth 100000 in
theorem c_X3_drawUp {l : Launch} {w : Wp} {L : Ly} {a0 a1 : Nat} {M : Mm} {x2 : Int32} {R0 : Int32 × Mm} (h0 : LPlan w L (a0)) (h1 : LWires w L (a1)) (hf : f_X3_drawUp a0 a1 M x2 = some R0) : CT l w L yX3_drawUp cX3_drawUp 4 none 1 [.ref a0, .ref a1, .int x2] M R0 := by
  unfold f_X3_drawUp at hf
  refine CT_of pn_X3 (Nat.le_of_ble_eq_true rfl) (fun E cx en => ?_)
  have cx : Ok w L E RX3 cX3_drawUp 4 1 := cx
  show G l w L E M [(0, .ref a0), (1, .ref a1), (2, .int x2)] 0 []
  refine g_aload_n (pc := 0) cx dX3_drawUp_0 rfl 0 rfl ?_
  refine g_iconst (pc := 1) (v := 0) cx dX3_drawUp_1 (by decide) ?_
  refine fp_X3_18 (pc := 2) cx dX3_drawUp_2 h0 hf (fun M1 hf => ?_)
  refine g_aload_n (pc := 5) cx dX3_drawUp_5 rfl 1 rfl ?_
  refine fg_X3_22 (pc := 6) cx dX3_drawUp_6 h1 ?_
  refine fg_X3_28 (pc := 9) cx dX3_drawUp_9 (LWires_service h1) ?_
  refine g_iload_n (pc := 12) cx dX3_drawUp_12 rfl 2 rfl ?_
  refine g_zald (pc := 13) cx (LService_bridged (LWires_service h1)) dX3_drawUp_13 hf (fun hf => ?_)
  refine g_if_ne (pc := 14) (tgt := 23) cx dX3_drawUp_14 rfl hf (fun hf => ?_) (fun hf => ?_)
  · refine g_aload_n (pc := 17) cx dX3_drawUp_17 rfl 0 rfl ?_
    refine g_iconst (pc := 18) (v := 0) cx dX3_drawUp_18 (by decide) ?_
    refine g_iload_n (pc := 19) cx dX3_drawUp_19 rfl 2 rfl ?_
    obtain ⟨q4, M2, hc3, hf⟩ := obn_some2 hf
    refine g_callVv (pc := 20) [.int 0, .int x2] [] cx lk_X3_34 vw_X3 (LPlan_o h0) (by decide) (c_X3_add h0 hc3) dX3_drawUp_20 (Nat.le_of_ble_eq_true rfl) ?_
    exact w_X3_drawUp_23 cx en h0 h1 hf
  · exact w_X3_drawUp_23 cx en h0 h1 hf
/-! X6_characterAt -/
def b_X6_characterAt_24 (a0 : Nat) (M : Mm) (s0 : Int32) : OR := some (s0, M)
def f_X6_characterAt (a0 : Nat) (M : Mm) (x1 : Int32) : OR := obn (f_X8_isOutside M x1 0 ((M a0 0) - 1)) fun q3 M1 => (if q3 = 0 then ckd x1 60 (b_X6_characterAt_24 a0 M1 (M1 (a0 + 1) (ix x1))) else b_X6_characterAt_24 a0 M1 0)
set_option maxHeartbeats 4000000 in
set_option maxRecDepth 100000 in
theorem w_X6_characterAt_24 {l : Launch} {w : Wp} {L : Ly} {E : Cx} {a0 : Nat} {s0 : Int32} {R0 : Int32 × Mm} (cx : Ok w L E RX6 cX6_characterAt 2 1) (en : En w L E (some .int) R0) (h0 : LText w L (a0)) {M : Mm} (hf : b_X6_characterAt_24 a0 M s0 = some R0) : G l w L E M [] 24 [.int s0] := by
  unfold b_X6_characterAt_24 at hf
  exact g_iret (pc := 24) cx en dX6_characterAt_24 rfl hf
set_option maxHeartbeats 4000000 in
set_option maxRecDepth 100000 in
theorem c_X6_characterAt {l : Launch} {w : Wp} {L : Ly} {a0 : Nat} {M : Mm} {x1 : Int32} {R0 : Int32 × Mm} (h0 : LText w L (a0)) (hf : f_X6_characterAt a0 M x1 = some R0) : CT l w L yX6_characterAt cX6_characterAt 2 (some .int) 1 [.ref a0, .int x1] M R0 := by
  unfold f_X6_characterAt at hf
  refine CT_of pn_X6 (Nat.le_of_ble_eq_true rfl) (fun E cx en => ?_)
  have cx : Ok w L E RX6 cX6_characterAt 2 1 := cx
  show G l w L E M [(0, .ref a0), (1, .int x1)] 0 []
  refine g_iload_n (pc := 0) cx dX6_characterAt_0 rfl 1 rfl ?_
  refine g_iconst (pc := 1) (v := 0) cx dX6_characterAt_1 (by decide) ?_
  refine g_aload_n (pc := 2) cx dX6_characterAt_2 rfl 0 rfl ?_
  refine fg_X6_35 (pc := 3) cx dX6_characterAt_3 h0 ?_
  refine g_iconst (pc := 6) (v := 1) cx dX6_characterAt_6 (by decide) ?_
  refine g_isub (pc := 7) cx dX6_characterAt_7 ?_
  obtain ⟨q3, M1, hc2, hf⟩ := obn_some2 hf
  refine g_callNi (pc := 8) [.int x1, .int 0, .int ((M a0 0) - 1)] [] cx lk_X6_38 (by decide) (c_X8_isOutside hc2) dX6_characterAt_8 (Nat.le_of_ble_eq_true rfl) ?_
  refine g_if_eq (pc := 11) (tgt := 18) cx dX6_characterAt_11 rfl hf (fun hf => ?_) (fun hf => ?_)
  · refine g_aload_n (pc := 18) cx dX6_characterAt_18 rfl 0 rfl ?_
    refine fg_X6_9 (pc := 19) cx dX6_characterAt_19 h0 ?_
    refine g_iload_n (pc := 22) cx dX6_characterAt_22 rfl 1 rfl ?_
    refine g_iald (pc := 23) cx (LText_characters h0) dX6_characterAt_23 hf (fun hf => ?_)
    refine g_sub [] [] rfl ?_
    exact w_X6_characterAt_24 cx en h0 hf
  · refine g_iconst (pc := 14) (v := 0) cx dX6_characterAt_14 (by decide) ?_
    refine g_goto (pc := 15) (tgt := 24) cx dX6_characterAt_15 rfl ?_
    refine g_sub [] [] rfl ?_
    exact w_X6_characterAt_24 cx en h0 hf
/-! X6_digitAt -/
def b_X6_digitAt_25 (a0 : Nat) (M : Mm) (s0 : Int32) : OR := some (s0, M)
def f_X6_digitAt (a0 : Nat) (M : Mm) (x1 : Int32) : OR := obn (f_X6_characterAt a0 M x1) fun q3 M1 => (obn (f_X8_isOutside M1 q3 48 57) fun q6 M4 => (if q6 = 0 then b_X6_digitAt_25 a0 M4 (q3 - 48) else b_X6_digitAt_25 a0 M4 (-1)))
set_option maxHeartbeats 4000000 in
set_option maxRecDepth 100000 in
theorem w_X6_digitAt_25 {l : Launch} {w : Wp} {L : Ly} {E : Cx} {a0 : Nat} {s0 : Int32} {R0 : Int32 × Mm} (cx : Ok w L E RX6 cX6_digitAt 3 2) (en : En w L E (some .int) R0) (h0 : LText w L (a0)) {M : Mm} (hf : b_X6_digitAt_25 a0 M s0 = some R0) : G l w L E M [] 25 [.int s0] := by
  unfold b_X6_digitAt_25 at hf
  exact g_iret (pc := 25) cx en dX6_digitAt_25 rfl hf
set_option maxHeartbeats 4000000 in
set_option maxRecDepth 100000 in
theorem c_X6_digitAt {l : Launch} {w : Wp} {L : Ly} {a0 : Nat} {M : Mm} {x1 : Int32} {R0 : Int32 × Mm} (h0 : LText w L (a0)) (hf : f_X6_digitAt a0 M x1 = some R0) : CT l w L yX6_digitAt cX6_digitAt 3 (some .int) 2 [.ref a0, .int x1] M R0 := by
  unfold f_X6_digitAt at hf
  refine CT_of pn_X6 (Nat.le_of_ble_eq_true rfl) (fun E cx en => ?_)
  have cx : Ok w L E RX6 cX6_digitAt 3 2 := cx
  show G l w L E M [(0, .ref a0), (1, .int x1)] 0 []
  refine g_aload_n (pc := 0) cx dX6_digitAt_0 rfl 0 rfl ?_
  refine g_iload_n (pc := 1) cx dX6_digitAt_1 rfl 1 rfl ?_
  obtain ⟨q3, M1, hc2, hf⟩ := obn_some2 hf
  refine g_callVi (pc := 2) [.int x1] [] cx lk_X6_15 vw_X6 (LText_o h0) (by decide) (c_X6_characterAt h0 hc2) dX6_digitAt_2 (Nat.le_of_ble_eq_true rfl) ?_
  refine g_istore_n (pc := 5) cx [(2, .int q3), (0, .ref a0), (1, .int x1)] dX6_digitAt_5 rfl (by decide) rfl ?_
  refine g_iload_n (pc := 6) cx dX6_digitAt_6 rfl 0 rfl ?_
  refine g_bipush (pc := 7) (v := 48) cx dX6_digitAt_7 (by decide) ?_
  refine g_bipush (pc := 9) (v := 57) cx dX6_digitAt_9 (by decide) ?_
  obtain ⟨q6, M4, hc5, hf⟩ := obn_some2 hf
  refine g_callNi (pc := 11) [.int q3, .int 48, .int 57] [] cx lk_X6_38 (by decide) (c_X8_isOutside hc5) dX6_digitAt_11 (Nat.le_of_ble_eq_true rfl) ?_
  refine g_if_eq (pc := 14) (tgt := 21) cx dX6_digitAt_14 rfl hf (fun hf => ?_) (fun hf => ?_)
  · refine g_iload_n (pc := 21) cx dX6_digitAt_21 rfl 0 rfl ?_
    refine g_bipush (pc := 22) (v := 48) cx dX6_digitAt_22 (by decide) ?_
    refine g_isub (pc := 24) cx dX6_digitAt_24 ?_
    refine g_sub [] [] rfl ?_
    exact w_X6_digitAt_25 cx en h0 hf
  · refine g_iconst (pc := 17) (v := (-1)) cx dX6_digitAt_17 (by decide) ?_
    refine g_goto (pc := 18) (tgt := 25) cx dX6_digitAt_18 rfl ?_
    refine g_sub [] [] rfl ?_
    exact w_X6_digitAt_25 cx en h0 hf
/-! X6_kindOf -/
def b_X6_kindOf_114 (M : Mm) : OR := some ((-1), M)
def f_X6_kindOf (M : Mm) (x0 : Int32) : OR := if x0 = 98 then some (0, M) else if x0 = 99 then some (3, M) else if x0 = 100 then b_X6_kindOf_114 M else if x0 = 101 then some (6, M) else if x0 = 102 then some (4, M) else if x0 = 103 then b_X6_kindOf_114 M else if x0 = 104 then b_X6_kindOf_114 M else if x0 = 105 then b_X6_kindOf_114 M else if x0 = 106 then b_X6_kindOf_114 M else if x0 = 107 then b_X6_kindOf_114 M else if x0 = 108 then b_X6_kindOf_114 M else if x0 = 109 then b_X6_kindOf_114 M else if x0 = 110 then some (5, M) else if x0 = 111 then some (2, M) else if x0 = 112 then b_X6_kindOf_114 M else if x0 = 113 then b_X6_kindOf_114 M else if x0 = 114 then b_X6_kindOf_114 M else if x0 = 115 then b_X6_kindOf_114 M else if x0 = 116 then some (1, M) else if x0 = 117 then some (7, M) else b_X6_kindOf_114 M
set_option maxHeartbeats 4000000 in
set_option maxRecDepth 100000 in
theorem w_X6_kindOf_114 {l : Launch} {w : Wp} {L : Ly} {E : Cx} {R0 : Int32 × Mm} (cx : Ok w L E RX6 cX6_kindOf 1 0) (en : En w L E (some .int) R0)  {M : Mm} (hf : b_X6_kindOf_114 M = some R0) : G l w L E M [] 114 [] := by
  unfold b_X6_kindOf_114 at hf
  refine g_iconst (pc := 114) (v := (-1)) cx dX6_kindOf_114 (by decide) ?_
  exact g_iret (pc := 115) cx en dX6_kindOf_115 rfl hf
set_option maxHeartbeats 4000000 in
set_option maxRecDepth 100000 in
theorem c_X6_kindOf {l : Launch} {w : Wp} {L : Ly} {M : Mm} {x0 : Int32} {R0 : Int32 × Mm}  (hf : f_X6_kindOf M x0 = some R0) : CT l w L yX6_kindOf cX6_kindOf 1 (some .int) 0 [.int x0] M R0 := by
  unfold f_X6_kindOf at hf
  refine CT_of pn_X6 (Nat.le_of_ble_eq_true rfl) (fun E cx en => ?_)
  have cx : Ok w L E RX6 cX6_kindOf 1 0 := cx
  show G l w L E M [(0, .int x0)] 0 []
  refine g_iload_n (pc := 0) cx dX6_kindOf_0 rfl 0 rfl ?_
  refine g_swk (pc := 1) (kx := 98) (off := 95) (tgt := 96) cx dX6_kindOf_1 (by decide) (by decide) (by decide) (by decide) hf (fun hf => ?_) (fun n0 hf => ?_)
  · refine g_iconst (pc := 96) (v := 0) cx dX6_kindOf_96 (by decide) ?_
    exact g_iret (pc := 97) cx en dX6_kindOf_97 rfl hf
  refine g_swk (pc := 1) (kx := 99) (off := 101) (tgt := 102) cx dX6_kindOf_1 (by decide) (by decide) (by decide) (by decide) hf (fun hf => ?_) (fun n1 hf => ?_)
  · refine g_iconst (pc := 102) (v := 3) cx dX6_kindOf_102 (by decide) ?_
    exact g_iret (pc := 103) cx en dX6_kindOf_103 rfl hf
  refine g_swk (pc := 1) (kx := 100) (off := 113) (tgt := 114) cx dX6_kindOf_1 (by decide) (by decide) (by decide) (by decide) hf (fun hf => ?_) (fun n2 hf => ?_)
  · refine g_sub [] [] rfl ?_
    exact w_X6_kindOf_114 cx en hf
  refine g_swk (pc := 1) (kx := 101) (off := 107) (tgt := 108) cx dX6_kindOf_1 (by decide) (by decide) (by decide) (by decide) hf (fun hf => ?_) (fun n3 hf => ?_)
  · refine g_bipush (pc := 108) (v := 6) cx dX6_kindOf_108 (by decide) ?_
    exact g_iret (pc := 110) cx en dX6_kindOf_110 rfl hf
  refine g_swk (pc := 1) (kx := 102) (off := 103) (tgt := 104) cx dX6_kindOf_1 (by decide) (by decide) (by decide) (by decide) hf (fun hf => ?_) (fun n4 hf => ?_)
  · refine g_iconst (pc := 104) (v := 4) cx dX6_kindOf_104 (by decide) ?_
    exact g_iret (pc := 105) cx en dX6_kindOf_105 rfl hf
  refine g_swk (pc := 1) (kx := 103) (off := 113) (tgt := 114) cx dX6_kindOf_1 (by decide) (by decide) (by decide) (by decide) hf (fun hf => ?_) (fun n5 hf => ?_)
  · refine g_sub [] [] rfl ?_
    exact w_X6_kindOf_114 cx en hf
  refine g_swk (pc := 1) (kx := 104) (off := 113) (tgt := 114) cx dX6_kindOf_1 (by decide) (by decide) (by decide) (by decide) hf (fun hf => ?_) (fun n6 hf => ?_)
  · refine g_sub [] [] rfl ?_
    exact w_X6_kindOf_114 cx en hf
  refine g_swk (pc := 1) (kx := 105) (off := 113) (tgt := 114) cx dX6_kindOf_1 (by decide) (by decide) (by decide) (by decide) hf (fun hf => ?_) (fun n7 hf => ?_)
  · refine g_sub [] [] rfl ?_
    exact w_X6_kindOf_114 cx en hf
  refine g_swk (pc := 1) (kx := 106) (off := 113) (tgt := 114) cx dX6_kindOf_1 (by decide) (by decide) (by decide) (by decide) hf (fun hf => ?_) (fun n8 hf => ?_)
  · refine g_sub [] [] rfl ?_
    exact w_X6_kindOf_114 cx en hf
  refine g_swk (pc := 1) (kx := 107) (off := 113) (tgt := 114) cx dX6_kindOf_1 (by decide) (by decide) (by decide) (by decide) hf (fun hf => ?_) (fun n9 hf => ?_)
  · refine g_sub [] [] rfl ?_
    exact w_X6_kindOf_114 cx en hf
  refine g_swk (pc := 1) (kx := 108) (off := 113) (tgt := 114) cx dX6_kindOf_1 (by decide) (by decide) (by decide) (by decide) hf (fun hf => ?_) (fun n10 hf => ?_)
  · refine g_sub [] [] rfl ?_
    exact w_X6_kindOf_114 cx en hf
  refine g_swk (pc := 1) (kx := 109) (off := 113) (tgt := 114) cx dX6_kindOf_1 (by decide) (by decide) (by decide) (by decide) hf (fun hf => ?_) (fun n11 hf => ?_)
  · refine g_sub [] [] rfl ?_
    exact w_X6_kindOf_114 cx en hf
  refine g_swk (pc := 1) (kx := 110) (off := 105) (tgt := 106) cx dX6_kindOf_1 (by decide) (by decide) (by decide) (by decide) hf (fun hf => ?_) (fun n12 hf => ?_)
  · refine g_iconst (pc := 106) (v := 5) cx dX6_kindOf_106 (by decide) ?_
    exact g_iret (pc := 107) cx en dX6_kindOf_107 rfl hf
  refine g_swk (pc := 1) (kx := 111) (off := 99) (tgt := 100) cx dX6_kindOf_1 (by decide) (by decide) (by decide) (by decide) hf (fun hf => ?_) (fun n13 hf => ?_)
  · refine g_iconst (pc := 100) (v := 2) cx dX6_kindOf_100 (by decide) ?_
    exact g_iret (pc := 101) cx en dX6_kindOf_101 rfl hf
  refine g_swk (pc := 1) (kx := 112) (off := 113) (tgt := 114) cx dX6_kindOf_1 (by decide) (by decide) (by decide) (by decide) hf (fun hf => ?_) (fun n14 hf => ?_)
  · refine g_sub [] [] rfl ?_
    exact w_X6_kindOf_114 cx en hf
  refine g_swk (pc := 1) (kx := 113) (off := 113) (tgt := 114) cx dX6_kindOf_1 (by decide) (by decide) (by decide) (by decide) hf (fun hf => ?_) (fun n15 hf => ?_)
  · refine g_sub [] [] rfl ?_
    exact w_X6_kindOf_114 cx en hf
  refine g_swk (pc := 1) (kx := 114) (off := 113) (tgt := 114) cx dX6_kindOf_1 (by decide) (by decide) (by decide) (by decide) hf (fun hf => ?_) (fun n16 hf => ?_)
  · refine g_sub [] [] rfl ?_
    exact w_X6_kindOf_114 cx en hf
  refine g_swk (pc := 1) (kx := 115) (off := 113) (tgt := 114) cx dX6_kindOf_1 (by decide) (by decide) (by decide) (by decide) hf (fun hf => ?_) (fun n17 hf => ?_)
  · refine g_sub [] [] rfl ?_
    exact w_X6_kindOf_114 cx en hf
  refine g_swk (pc := 1) (kx := 116) (off := 97) (tgt := 98) cx dX6_kindOf_1 (by decide) (by decide) (by decide) (by decide) hf (fun hf => ?_) (fun n18 hf => ?_)
  · refine g_iconst (pc := 98) (v := 1) cx dX6_kindOf_98 (by decide) ?_
    exact g_iret (pc := 99) cx en dX6_kindOf_99 rfl hf
  refine g_swk (pc := 1) (kx := 117) (off := 110) (tgt := 111) cx dX6_kindOf_1 (by decide) (by decide) (by decide) (by decide) hf (fun hf => ?_) (fun n19 hf => ?_)
  · refine g_bipush (pc := 111) (v := 7) cx dX6_kindOf_111 (by decide) ?_
    exact g_iret (pc := 113) cx en dX6_kindOf_113 rfl hf
  refine g_swo (pc := 1) (tgt := 114) cx dX6_kindOf_1 ?_ (by decide) ?_
  · have q0 := lv_neT n0 (a := 98) (by decide)
    have q1 := lv_neT n1 (a := 99) (by decide)
    have q2 := lv_neT n2 (a := 100) (by decide)
    have q3 := lv_neT n3 (a := 101) (by decide)
    have q4 := lv_neT n4 (a := 102) (by decide)
    have q5 := lv_neT n5 (a := 103) (by decide)
    have q6 := lv_neT n6 (a := 104) (by decide)
    have q7 := lv_neT n7 (a := 105) (by decide)
    have q8 := lv_neT n8 (a := 106) (by decide)
    have q9 := lv_neT n9 (a := 107) (by decide)
    have q10 := lv_neT n10 (a := 108) (by decide)
    have q11 := lv_neT n11 (a := 109) (by decide)
    have q12 := lv_neT n12 (a := 110) (by decide)
    have q13 := lv_neT n13 (a := 111) (by decide)
    have q14 := lv_neT n14 (a := 112) (by decide)
    have q15 := lv_neT n15 (a := 113) (by decide)
    have q16 := lv_neT n16 (a := 114) (by decide)
    have q17 := lv_neT n17 (a := 115) (by decide)
    have q18 := lv_neT n18 (a := 116) (by decide)
    have q19 := lv_neT n19 (a := 117) (by decide)
    omega
  · refine g_sub [] [] rfl ?_
    exact w_X6_kindOf_114 cx en hf
/-! X6_readStep -/
def b_X6_readStep_33 (a0 : Nat) (M : Mm) : OR := zrk 0 (some (0, M))
def b_X6_readStep_110 (a0 : Nat) (M : Mm) (s0 : Int32) : OR := zrk s0 (some (s0, M))
def b_X6_readStep_86 (a0 : Nat) (M : Mm) (s1 : Int32) (s2 : Int32) : OR := bnd (mst M a0 4 (s1 + s2)) fun M1 => obn (f_X6_characterAt a0 M1 ((M1 a0 4) - 1)) fun q4 M2 => (if q4 = 59 then b_X6_readStep_110 a0 M2 1 else b_X6_readStep_110 a0 M2 0)
def b_X6_readStep_71 (a0 : Nat) (M : Mm) (x1 : Int32) (x4 : Int32) (s1 : Int32) : OR := bnd (mst M a0 3 s1) fun M1 => if x4 = 0 then b_X6_readStep_86 a0 M1 x1 3 else b_X6_readStep_86 a0 M1 x1 4
def b_X6_readStep_53 (a0 : Nat) (M : Mm) (x1 : Int32) (x2 : Int32) (x3 : Int32) (s0 : Int32) : OR := if s0 = 0 then b_X6_readStep_71 a0 M x1 s0 x2 else b_X6_readStep_71 a0 M x1 s0 ((10 * x2) + x3)
def f_X6_readStep (a0 : Nat) (M : Mm) (x1 : Int32) : OR := obn (f_X6_characterAt a0 M x1) fun q3 M1 => (obn (f_X6_kindOf M1 q3) fun q6 M4 => (bnd (mst M4 a0 2 q6) fun M7 => obn (f_X6_digitAt a0 M7 (x1 + 1)) fun q10 M8 => (if (M8 a0 2) = (-1) then b_X6_readStep_33 a0 M8 else if q10 = (-1) then b_X6_readStep_33 a0 M8 else obn (f_X6_digitAt a0 M8 (x1 + 2)) fun q13 M11 => (if q13 = (-1) then b_X6_readStep_53 a0 M11 x1 q10 q13 0 else b_X6_readStep_53 a0 M11 x1 q10 q13 1))))
set_option maxHeartbeats 4000000 in
set_option maxRecDepth 100000 in
theorem w_X6_readStep_33 {l : Launch} {w : Wp} {L : Ly} {E : Cx} {a0 : Nat} {R0 : Int32 × Mm} (cx : Ok w L E RX6 cX6_readStep 5 3) (en : En w L E (some .boolean) R0) (h0 : LText w L (a0)) {M : Mm} (hf : b_X6_readStep_33 a0 M = some R0) : G l w L E M [] 33 [] := by
  unfold b_X6_readStep_33 at hf
  refine g_iconst (pc := 33) (v := 0) cx dX6_readStep_33 (by decide) ?_
  exact g_zret (pc := 34) cx en dX6_readStep_34 hf
set_option maxHeartbeats 4000000 in
set_option maxRecDepth 100000 in
theorem w_X6_readStep_110 {l : Launch} {w : Wp} {L : Ly} {E : Cx} {a0 : Nat} {s0 : Int32} {R0 : Int32 × Mm} (cx : Ok w L E RX6 cX6_readStep 5 3) (en : En w L E (some .boolean) R0) (h0 : LText w L (a0)) {M : Mm} (hf : b_X6_readStep_110 a0 M s0 = some R0) : G l w L E M [] 110 [.int s0] := by
  unfold b_X6_readStep_110 at hf
  exact g_zret (pc := 110) cx en dX6_readStep_110 hf
set_option maxHeartbeats 4000000 in
set_option maxRecDepth 100000 in
theorem w_X6_readStep_86 {l : Launch} {w : Wp} {L : Ly} {E : Cx} {a0 : Nat} {s1 : Int32} {s2 : Int32} {R0 : Int32 × Mm} (cx : Ok w L E RX6 cX6_readStep 5 3) (en : En w L E (some .boolean) R0) (h0 : LText w L (a0)) {M : Mm} (hf : b_X6_readStep_86 a0 M s1 s2 = some R0) : G l w L E M [(0, .ref a0)] 86 [.int s2, .int s1, .ref a0] := by
  unfold b_X6_readStep_86 at hf
  refine g_iadd (pc := 86) cx dX6_readStep_86 ?_
  refine fp_X6_32 (pc := 87) cx dX6_readStep_87 h0 hf (fun M1 hf => ?_)
  refine g_aload_n (pc := 90) cx dX6_readStep_90 rfl 0 rfl ?_
  refine g_aload_n (pc := 91) cx dX6_readStep_91 rfl 0 rfl ?_
  refine fg_X6_32 (pc := 92) cx dX6_readStep_92 h0 ?_
  refine g_iconst (pc := 95) (v := 1) cx dX6_readStep_95 (by decide) ?_
  refine g_isub (pc := 96) cx dX6_readStep_96 ?_
  obtain ⟨q4, M2, hc3, hf⟩ := obn_some2 hf
  refine g_callVi (pc := 97) [.int ((M1 a0 4) - 1)] [] cx lk_X6_15 vw_X6 (LText_o h0) (by decide) (c_X6_characterAt h0 hc3) dX6_readStep_97 (Nat.le_of_ble_eq_true rfl) ?_
  refine g_bipush (pc := 100) (v := 59) cx dX6_readStep_100 (by decide) ?_
  refine g_icmp_ne (pc := 102) (tgt := 109) cx dX6_readStep_102 rfl hf (fun hf => ?_) (fun hf => ?_)
  · refine g_iconst (pc := 105) (v := 1) cx dX6_readStep_105 (by decide) ?_
    refine g_goto (pc := 106) (tgt := 110) cx dX6_readStep_106 rfl ?_
    refine g_sub [] [] rfl ?_
    exact w_X6_readStep_110 cx en h0 hf
  · refine g_iconst (pc := 109) (v := 0) cx dX6_readStep_109 (by decide) ?_
    refine g_sub [] [] rfl ?_
    exact w_X6_readStep_110 cx en h0 hf
set_option maxHeartbeats 4000000 in
set_option maxRecDepth 100000 in
theorem w_X6_readStep_71 {l : Launch} {w : Wp} {L : Ly} {E : Cx} {a0 : Nat} {x1 : Int32} {x4 : Int32} {s1 : Int32} {R0 : Int32 × Mm} (cx : Ok w L E RX6 cX6_readStep 5 3) (en : En w L E (some .boolean) R0) (h0 : LText w L (a0)) {M : Mm} (hf : b_X6_readStep_71 a0 M x1 x4 s1 = some R0) : G l w L E M [(0, .ref a0), (1, .int x1), (4, .int x4)] 71 [.int s1, .ref a0] := by
  unfold b_X6_readStep_71 at hf
  refine fp_X6_29 (pc := 71) cx dX6_readStep_71 h0 hf (fun M1 hf => ?_)
  refine g_aload_n (pc := 74) cx dX6_readStep_74 rfl 0 rfl ?_
  refine g_iload_n (pc := 75) cx dX6_readStep_75 rfl 1 rfl ?_
  refine g_iload (pc := 76) cx dX6_readStep_76 2 rfl ?_
  refine g_if_eq (pc := 78) (tgt := 85) cx dX6_readStep_78 rfl hf (fun hf => ?_) (fun hf => ?_)
  · refine g_iconst (pc := 85) (v := 3) cx dX6_readStep_85 (by decide) ?_
    refine g_sub [0] [(0, .ref a0)] rfl ?_
    exact w_X6_readStep_86 cx en h0 hf
  · refine g_iconst (pc := 81) (v := 4) cx dX6_readStep_81 (by decide) ?_
    refine g_goto (pc := 82) (tgt := 86) cx dX6_readStep_82 rfl ?_
    refine g_sub [0] [(0, .ref a0)] rfl ?_
    exact w_X6_readStep_86 cx en h0 hf
set_option maxHeartbeats 4000000 in
set_option maxRecDepth 100000 in
theorem w_X6_readStep_53 {l : Launch} {w : Wp} {L : Ly} {E : Cx} {a0 : Nat} {x1 : Int32} {x2 : Int32} {x3 : Int32} {s0 : Int32} {R0 : Int32 × Mm} (cx : Ok w L E RX6 cX6_readStep 5 3) (en : En w L E (some .boolean) R0) (h0 : LText w L (a0)) {M : Mm} (hf : b_X6_readStep_53 a0 M x1 x2 x3 s0 = some R0) : G l w L E M [(0, .ref a0), (1, .int x1), (2, .int x2), (3, .int x3)] 53 [.int s0] := by
  unfold b_X6_readStep_53 at hf
  refine g_istore (pc := 53) cx [(4, .int s0), (0, .ref a0), (1, .int x1), (2, .int x2), (3, .int x3)] dX6_readStep_53 (by decide) rfl ?_
  refine g_aload_n (pc := 55) cx dX6_readStep_55 rfl 1 rfl ?_
  refine g_iload (pc := 56) cx dX6_readStep_56 0 rfl ?_
  refine g_if_eq (pc := 58) (tgt := 70) cx dX6_readStep_58 rfl hf (fun hf => ?_) (fun hf => ?_)
  · refine g_iload_n (pc := 70) cx dX6_readStep_70 rfl 3 rfl ?_
    refine g_sub [1, 2, 0] [(0, .ref a0), (1, .int x1), (4, .int s0)] rfl ?_
    exact w_X6_readStep_71 cx en h0 hf
  · refine g_bipush (pc := 61) (v := 10) cx dX6_readStep_61 (by decide) ?_
    refine g_iload_n (pc := 63) cx dX6_readStep_63 rfl 3 rfl ?_
    refine g_imul (pc := 64) cx dX6_readStep_64 ?_
    refine g_iload_n (pc := 65) cx dX6_readStep_65 rfl 4 rfl ?_
    refine g_iadd (pc := 66) cx dX6_readStep_66 ?_
    refine g_goto (pc := 67) (tgt := 71) cx dX6_readStep_67 rfl ?_
    refine g_sub [1, 2, 0] [(0, .ref a0), (1, .int x1), (4, .int s0)] rfl ?_
    exact w_X6_readStep_71 cx en h0 hf
set_option maxHeartbeats 4000000 in
set_option maxRecDepth 100000 in
theorem c_X6_readStep {l : Launch} {w : Wp} {L : Ly} {a0 : Nat} {M : Mm} {x1 : Int32} {R0 : Int32 × Mm} (h0 : LText w L (a0)) (hf : f_X6_readStep a0 M x1 = some R0) : CT l w L yX6_readStep cX6_readStep 5 (some .boolean) 3 [.ref a0, .int x1] M R0 := by
  unfold f_X6_readStep at hf
  refine CT_of pn_X6 (Nat.le_of_ble_eq_true rfl) (fun E cx en => ?_)
  have cx : Ok w L E RX6 cX6_readStep 5 3 := cx
  show G l w L E M [(0, .ref a0), (1, .int x1)] 0 []
  refine g_aload_n (pc := 0) cx dX6_readStep_0 rfl 0 rfl ?_
  refine g_aload_n (pc := 1) cx dX6_readStep_1 rfl 0 rfl ?_
  refine g_iload_n (pc := 2) cx dX6_readStep_2 rfl 1 rfl ?_
  obtain ⟨q3, M1, hc2, hf⟩ := obn_some2 hf
  refine g_callVi (pc := 3) [.int x1] [.ref a0] cx lk_X6_15 vw_X6 (LText_o h0) (by decide) (c_X6_characterAt h0 hc2) dX6_readStep_3 (Nat.le_of_ble_eq_true rfl) ?_
  obtain ⟨q6, M4, hc5, hf⟩ := obn_some2 hf
  refine g_callSi (pc := 6) [.int q3] [.ref a0] cx lk_X6_19 (by decide) (c_X6_kindOf hc5) dX6_readStep_6 (Nat.le_of_ble_eq_true rfl) ?_
  refine fp_X6_22 (pc := 9) cx dX6_readStep_9 h0 hf (fun M7 hf => ?_)
  refine g_aload_n (pc := 12) cx dX6_readStep_12 rfl 0 rfl ?_
  refine g_iload_n (pc := 13) cx dX6_readStep_13 rfl 1 rfl ?_
  refine g_iconst (pc := 14) (v := 1) cx dX6_readStep_14 (by decide) ?_
  refine g_iadd (pc := 15) cx dX6_readStep_15 ?_
  obtain ⟨q10, M8, hc9, hf⟩ := obn_some2 hf
  refine g_callVi (pc := 16) [.int (x1 + 1)] [] cx lk_X6_26 vw_X6 (LText_o h0) (by decide) (c_X6_digitAt h0 hc9) dX6_readStep_16 (Nat.le_of_ble_eq_true rfl) ?_
  refine g_istore_n (pc := 19) cx [(2, .int q10), (0, .ref a0), (1, .int x1)] dX6_readStep_19 rfl (by decide) rfl ?_
  refine g_aload_n (pc := 20) cx dX6_readStep_20 rfl 1 rfl ?_
  refine fg_X6_22 (pc := 21) cx dX6_readStep_21 h0 ?_
  refine g_iconst (pc := 24) (v := (-1)) cx dX6_readStep_24 (by decide) ?_
  refine g_icmp_eq (pc := 25) (tgt := 33) cx dX6_readStep_25 rfl hf (fun hf => ?_) (fun hf => ?_)
  · refine g_sub [] [] rfl ?_
    exact w_X6_readStep_33 cx en h0 hf
  · refine g_iload_n (pc := 28) cx dX6_readStep_28 rfl 0 rfl ?_
    refine g_iconst (pc := 29) (v := (-1)) cx dX6_readStep_29 (by decide) ?_
    refine g_icmp_ne (pc := 30) (tgt := 35) cx dX6_readStep_30 rfl hf (fun hf => ?_) (fun hf => ?_)
    · refine g_sub [] [] rfl ?_
      exact w_X6_readStep_33 cx en h0 hf
    · refine g_aload_n (pc := 35) cx dX6_readStep_35 rfl 1 rfl ?_
      refine g_iload_n (pc := 36) cx dX6_readStep_36 rfl 2 rfl ?_
      refine g_iconst (pc := 37) (v := 2) cx dX6_readStep_37 (by decide) ?_
      refine g_iadd (pc := 38) cx dX6_readStep_38 ?_
      obtain ⟨q13, M11, hc12, hf⟩ := obn_some2 hf
      refine g_callVi (pc := 39) [.int (x1 + 2)] [] cx lk_X6_26 vw_X6 (LText_o h0) (by decide) (c_X6_digitAt h0 hc12) dX6_readStep_39 (Nat.le_of_ble_eq_true rfl) ?_
      refine g_istore_n (pc := 42) cx [(3, .int q13), (2, .int q10), (0, .ref a0), (1, .int x1)] dX6_readStep_42 rfl (by decide) rfl ?_
      refine g_iload_n (pc := 43) cx dX6_readStep_43 rfl 0 rfl ?_
      refine g_iconst (pc := 44) (v := (-1)) cx dX6_readStep_44 (by decide) ?_
      refine g_icmp_eq (pc := 45) (tgt := 52) cx dX6_readStep_45 rfl hf (fun hf => ?_) (fun hf => ?_)
      · refine g_iconst (pc := 52) (v := 0) cx dX6_readStep_52 (by decide) ?_
        refine g_sub [2, 3, 1, 0] [(0, .ref a0), (1, .int x1), (2, .int q10), (3, .int q13)] rfl ?_
        exact w_X6_readStep_53 cx en h0 hf
      · refine g_iconst (pc := 48) (v := 1) cx dX6_readStep_48 (by decide) ?_
        refine g_goto (pc := 49) (tgt := 53) cx dX6_readStep_49 rfl ?_
        refine g_sub [2, 3, 1, 0] [(0, .ref a0), (1, .int x1), (2, .int q10), (3, .int q13)] rfl ?_
        exact w_X6_readStep_53 cx en h0 hf
/-! X7_hasSection -/
def b_X7_hasSection_22 (a0 : Nat) (M : Mm) (s0 : Int32) : OR := zrk s0 (some (s0, M))
def f_X7_hasSection (a0 : Nat) (M : Mm) (x1 : Int32) : OR := obn (f_X8_isOutside M x1 0 ((M (a0 + 1) 0) - 1)) fun q3 M1 => (if q3 = 0 then b_X7_hasSection_22 a0 M1 1 else b_X7_hasSection_22 a0 M1 0)
set_option maxHeartbeats 4000000 in
set_option maxRecDepth 100000 in
theorem w_X7_hasSection_22 {l : Launch} {w : Wp} {L : Ly} {E : Cx} {a0 : Nat} {s0 : Int32} {R0 : Int32 × Mm} (cx : Ok w L E RX7 cX7_hasSection 2 1) (en : En w L E (some .boolean) R0) (h0 : LWires w L (a0)) {M : Mm} (hf : b_X7_hasSection_22 a0 M s0 = some R0) : G l w L E M [] 22 [.int s0] := by
  unfold b_X7_hasSection_22 at hf
  exact g_zret (pc := 22) cx en dX7_hasSection_22 hf
set_option maxHeartbeats 4000000 in
set_option maxRecDepth 100000 in
theorem c_X7_hasSection {l : Launch} {w : Wp} {L : Ly} {a0 : Nat} {M : Mm} {x1 : Int32} {R0 : Int32 × Mm} (h0 : LWires w L (a0)) (hf : f_X7_hasSection a0 M x1 = some R0) : CT l w L yX7_hasSection cX7_hasSection 2 (some .boolean) 1 [.ref a0, .int x1] M R0 := by
  unfold f_X7_hasSection at hf
  refine CT_of pn_X7 (Nat.le_of_ble_eq_true rfl) (fun E cx en => ?_)
  have cx : Ok w L E RX7 cX7_hasSection 2 1 := cx
  show G l w L E M [(0, .ref a0), (1, .int x1)] 0 []
  refine g_iload_n (pc := 0) cx dX7_hasSection_0 rfl 1 rfl ?_
  refine g_iconst (pc := 1) (v := 0) cx dX7_hasSection_1 (by decide) ?_
  refine g_aload_n (pc := 2) cx dX7_hasSection_2 rfl 0 rfl ?_
  refine fg_X7_12 (pc := 3) cx dX7_hasSection_3 h0 ?_
  refine fg_X7_49 (pc := 6) cx dX7_hasSection_6 (LWires_net h0) ?_
  refine g_iconst (pc := 9) (v := 1) cx dX7_hasSection_9 (by decide) ?_
  refine g_isub (pc := 10) cx dX7_hasSection_10 ?_
  obtain ⟨q3, M1, hc2, hf⟩ := obn_some2 hf
  refine g_callNi (pc := 11) [.int x1, .int 0, .int ((M (a0 + 1) 0) - 1)] [] cx lk_X7_53 (by decide) (c_X8_isOutside hc2) dX7_hasSection_11 (Nat.le_of_ble_eq_true rfl) ?_
  refine g_if_ne (pc := 14) (tgt := 21) cx dX7_hasSection_14 rfl hf (fun hf => ?_) (fun hf => ?_)
  · refine g_iconst (pc := 17) (v := 1) cx dX7_hasSection_17 (by decide) ?_
    refine g_goto (pc := 18) (tgt := 22) cx dX7_hasSection_18 rfl ?_
    refine g_sub [] [] rfl ?_
    exact w_X7_hasSection_22 cx en h0 hf
  · refine g_iconst (pc := 21) (v := 0) cx dX7_hasSection_21 (by decide) ?_
    refine g_sub [] [] rfl ?_
    exact w_X7_hasSection_22 cx en h0 hf
/-! X7_hasIsolator -/
def b_X7_hasIsolator_22 (a0 : Nat) (M : Mm) (s0 : Int32) : OR := zrk s0 (some (s0, M))
def f_X7_hasIsolator (a0 : Nat) (M : Mm) (x1 : Int32) : OR := obn (f_X8_isOutside M x1 0 ((M (a0 + 1) 1) - 1)) fun q3 M1 => (if q3 = 0 then b_X7_hasIsolator_22 a0 M1 1 else b_X7_hasIsolator_22 a0 M1 0)
set_option maxHeartbeats 4000000 in
set_option maxRecDepth 100000 in
theorem w_X7_hasIsolator_22 {l : Launch} {w : Wp} {L : Ly} {E : Cx} {a0 : Nat} {s0 : Int32} {R0 : Int32 × Mm} (cx : Ok w L E RX7 cX7_hasIsolator 2 1) (en : En w L E (some .boolean) R0) (h0 : LWires w L (a0)) {M : Mm} (hf : b_X7_hasIsolator_22 a0 M s0 = some R0) : G l w L E M [] 22 [.int s0] := by
  unfold b_X7_hasIsolator_22 at hf
  exact g_zret (pc := 22) cx en dX7_hasIsolator_22 hf
set_option maxHeartbeats 4000000 in
set_option maxRecDepth 100000 in
theorem c_X7_hasIsolator {l : Launch} {w : Wp} {L : Ly} {a0 : Nat} {M : Mm} {x1 : Int32} {R0 : Int32 × Mm} (h0 : LWires w L (a0)) (hf : f_X7_hasIsolator a0 M x1 = some R0) : CT l w L yX7_hasIsolator cX7_hasIsolator 2 (some .boolean) 1 [.ref a0, .int x1] M R0 := by
  unfold f_X7_hasIsolator at hf
  refine CT_of pn_X7 (Nat.le_of_ble_eq_true rfl) (fun E cx en => ?_)
  have cx : Ok w L E RX7 cX7_hasIsolator 2 1 := cx
  show G l w L E M [(0, .ref a0), (1, .int x1)] 0 []
  refine g_iload_n (pc := 0) cx dX7_hasIsolator_0 rfl 1 rfl ?_
  refine g_iconst (pc := 1) (v := 0) cx dX7_hasIsolator_1 (by decide) ?_
  refine g_aload_n (pc := 2) cx dX7_hasIsolator_2 rfl 0 rfl ?_
  refine fg_X7_12 (pc := 3) cx dX7_hasIsolator_3 h0 ?_
  refine fg_X7_57 (pc := 6) cx dX7_hasIsolator_6 (LWires_net h0) ?_
  refine g_iconst (pc := 9) (v := 1) cx dX7_hasIsolator_9 (by decide) ?_
  refine g_isub (pc := 10) cx dX7_hasIsolator_10 ?_
  obtain ⟨q3, M1, hc2, hf⟩ := obn_some2 hf
  refine g_callNi (pc := 11) [.int x1, .int 0, .int ((M (a0 + 1) 1) - 1)] [] cx lk_X7_53 (by decide) (c_X8_isOutside hc2) dX7_hasIsolator_11 (Nat.le_of_ble_eq_true rfl) ?_
  refine g_if_ne (pc := 14) (tgt := 21) cx dX7_hasIsolator_14 rfl hf (fun hf => ?_) (fun hf => ?_)
  · refine g_iconst (pc := 17) (v := 1) cx dX7_hasIsolator_17 (by decide) ?_
    refine g_goto (pc := 18) (tgt := 22) cx dX7_hasIsolator_18 rfl ?_
    refine g_sub [] [] rfl ?_
    exact w_X7_hasIsolator_22 cx en h0 hf
  · refine g_iconst (pc := 21) (v := 0) cx dX7_hasIsolator_21 (by decide) ?_
    refine g_sub [] [] rfl ?_
    exact w_X7_hasIsolator_22 cx en h0 hf
/-! X7_hasPlace -/
def b_X7_hasPlace_35 (a0 : Nat) (M : Mm) (s0 : Int32) : OR := zrk s0 (some (s0, M))
def b_X7_hasPlace_22 (a0 : Nat) (M : Mm) (x2 : Int32) : OR := obn (f_X7_hasIsolator a0 M x2) fun q3 M1 => (b_X7_hasPlace_35 a0 M1 q3)
def f_X7_hasPlace (a0 : Nat) (M : Mm) (x1 : Int32) (x2 : Int32) : OR := obn (f_X8_isOutside M x1 0 7) fun q3 M1 => (if q3 = 0 then if x1 = 2 then b_X7_hasPlace_22 a0 M1 x2 else if x1 = 3 then b_X7_hasPlace_22 a0 M1 x2 else obn (f_X7_hasSection a0 M1 x2) fun q6 M4 => (b_X7_hasPlace_35 a0 M4 q6) else zrk 0 (some (0, M1)))
set_option maxHeartbeats 4000000 in
set_option maxRecDepth 100000 in
theorem w_X7_hasPlace_35 {l : Launch} {w : Wp} {L : Ly} {E : Cx} {a0 : Nat} {s0 : Int32} {R0 : Int32 × Mm} (cx : Ok w L E RX7 cX7_hasPlace 3 2) (en : En w L E (some .boolean) R0) (h0 : LWires w L (a0)) {M : Mm} (hf : b_X7_hasPlace_35 a0 M s0 = some R0) : G l w L E M [] 35 [.int s0] := by
  unfold b_X7_hasPlace_35 at hf
  exact g_zret (pc := 35) cx en dX7_hasPlace_35 hf
set_option maxHeartbeats 4000000 in
set_option maxRecDepth 100000 in
theorem w_X7_hasPlace_22 {l : Launch} {w : Wp} {L : Ly} {E : Cx} {a0 : Nat} {x2 : Int32} {R0 : Int32 × Mm} (cx : Ok w L E RX7 cX7_hasPlace 3 2) (en : En w L E (some .boolean) R0) (h0 : LWires w L (a0)) {M : Mm} (hf : b_X7_hasPlace_22 a0 M x2 = some R0) : G l w L E M [(0, .ref a0), (2, .int x2)] 22 [] := by
  unfold b_X7_hasPlace_22 at hf
  refine g_aload_n (pc := 22) cx dX7_hasPlace_22 rfl 0 rfl ?_
  refine g_iload_n (pc := 23) cx dX7_hasPlace_23 rfl 1 rfl ?_
  obtain ⟨q3, M1, hc2, hf⟩ := obn_some2 hf
  refine g_callVi (pc := 24) [.int x2] [] cx lk_X7_60 vw_X7 (LWires_o h0) (by decide) (c_X7_hasIsolator h0 hc2) dX7_hasPlace_24 (Nat.le_of_ble_eq_true rfl) ?_
  refine g_goto (pc := 27) (tgt := 35) cx dX7_hasPlace_27 rfl ?_
  refine g_sub [] [] rfl ?_
  exact w_X7_hasPlace_35 cx en h0 hf
set_option maxHeartbeats 4000000 in
set_option maxRecDepth 100000 in
theorem c_X7_hasPlace {l : Launch} {w : Wp} {L : Ly} {a0 : Nat} {M : Mm} {x1 : Int32} {x2 : Int32} {R0 : Int32 × Mm} (h0 : LWires w L (a0)) (hf : f_X7_hasPlace a0 M x1 x2 = some R0) : CT l w L yX7_hasPlace cX7_hasPlace 3 (some .boolean) 2 [.ref a0, .int x1, .int x2] M R0 := by
  unfold f_X7_hasPlace at hf
  refine CT_of pn_X7 (Nat.le_of_ble_eq_true rfl) (fun E cx en => ?_)
  have cx : Ok w L E RX7 cX7_hasPlace 3 2 := cx
  show G l w L E M [(0, .ref a0), (1, .int x1), (2, .int x2)] 0 []
  refine g_iload_n (pc := 0) cx dX7_hasPlace_0 rfl 1 rfl ?_
  refine g_iconst (pc := 1) (v := 0) cx dX7_hasPlace_1 (by decide) ?_
  refine g_bipush (pc := 2) (v := 7) cx dX7_hasPlace_2 (by decide) ?_
  obtain ⟨q3, M1, hc2, hf⟩ := obn_some2 hf
  refine g_callNi (pc := 4) [.int x1, .int 0, .int 7] [] cx lk_X7_53 (by decide) (c_X8_isOutside hc2) dX7_hasPlace_4 (Nat.le_of_ble_eq_true rfl) ?_
  refine g_if_eq (pc := 7) (tgt := 12) cx dX7_hasPlace_7 rfl hf (fun hf => ?_) (fun hf => ?_)
  · refine g_iload_n (pc := 12) cx dX7_hasPlace_12 rfl 1 rfl ?_
    refine g_iconst (pc := 13) (v := 2) cx dX7_hasPlace_13 (by decide) ?_
    refine g_icmp_eq (pc := 14) (tgt := 22) cx dX7_hasPlace_14 rfl hf (fun hf => ?_) (fun hf => ?_)
    · refine g_sub [0, 2] [(0, .ref a0), (2, .int x2)] rfl ?_
      exact w_X7_hasPlace_22 cx en h0 hf
    · refine g_iload_n (pc := 17) cx dX7_hasPlace_17 rfl 1 rfl ?_
      refine g_iconst (pc := 18) (v := 3) cx dX7_hasPlace_18 (by decide) ?_
      refine g_icmp_ne (pc := 19) (tgt := 30) cx dX7_hasPlace_19 rfl hf (fun hf => ?_) (fun hf => ?_)
      · refine g_sub [0, 2] [(0, .ref a0), (2, .int x2)] rfl ?_
        exact w_X7_hasPlace_22 cx en h0 hf
      · refine g_aload_n (pc := 30) cx dX7_hasPlace_30 rfl 0 rfl ?_
        refine g_iload_n (pc := 31) cx dX7_hasPlace_31 rfl 2 rfl ?_
        obtain ⟨q6, M4, hc5, hf⟩ := obn_some2 hf
        refine g_callVi (pc := 32) [.int x2] [] cx lk_X7_64 vw_X7 (LWires_o h0) (by decide) (c_X7_hasSection h0 hc5) dX7_hasPlace_32 (Nat.le_of_ble_eq_true rfl) ?_
        refine g_sub [] [] rfl ?_
        exact w_X7_hasPlace_35 cx en h0 hf
  · refine g_iconst (pc := 10) (v := 0) cx dX7_hasPlace_10 (by decide) ?_
    exact g_zret (pc := 11) cx en dX7_hasPlace_11 hf
/-! X7_addSection -/
def f_X7_addSection (a0 : Nat) (M : Mm) (x1 : Int32) (x2 : Int32) : OR := bnd (M (a0 + 1) 0) fun v1 => bnd (mst M (a0 + 1) 0 ((M (a0 + 1) 0) + 1)) fun M2 => ckd v1 10 (bnd (mst M2 ((a0 + 8) + 1) (ix v1) x1) fun M3 => ckd v1 10 (bnd (mst M3 ((a0 + 16) + 4) (ix v1) x2) fun M4 => ckd v1 10 (bnd (mst M4 ((a0 + 1) + 5) (ix v1) v1) fun M5 => obn (f_X2_setFeeder (a0 + 1) M5 v1 x2) fun _ M6 => (some (v1, M6)))))
set_option maxHeartbeats 4000000 in
set_option maxRecDepth 100000 in
theorem c_X7_addSection {l : Launch} {w : Wp} {L : Ly} {a0 : Nat} {M : Mm} {x1 : Int32} {x2 : Int32} {R0 : Int32 × Mm} (h0 : LWires w L (a0)) (hf : f_X7_addSection a0 M x1 x2 = some R0) : CT l w L yX7_addSection cX7_addSection 4 (some .int) 2 [.ref a0, .int x1, .int x2] M R0 := by
  unfold f_X7_addSection at hf
  refine CT_of pn_X7 (Nat.le_of_ble_eq_true rfl) (fun E cx en => ?_)
  have cx : Ok w L E RX7 cX7_addSection 4 2 := cx
  show G l w L E M [(0, .ref a0), (1, .int x1), (2, .int x2)] 0 []
  refine g_aload_n (pc := 0) cx dX7_addSection_0 rfl 0 rfl ?_
  refine fg_X7_12 (pc := 1) cx dX7_addSection_1 h0 ?_
  refine fg_X7_49 (pc := 4) cx dX7_addSection_4 (LWires_net h0) ?_
  refine g_nm hf (fun v1 hf => ?_)
  refine g_istore_n (pc := 7) cx [(3, .int v1), (0, .ref a0), (1, .int x1), (2, .int x2)] dX7_addSection_7 rfl (by decide) rfl ?_
  refine g_aload_n (pc := 8) cx dX7_addSection_8 rfl 1 rfl ?_
  refine fg_X7_12 (pc := 9) cx dX7_addSection_9 h0 ?_
  refine g_dup (pc := 12) cx dX7_addSection_12 rfl ?_
  refine fg_X7_49 (pc := 13) cx dX7_addSection_13 (LWires_net h0) ?_
  refine g_iconst (pc := 16) (v := 1) cx dX7_addSection_16 (by decide) ?_
  refine g_iadd (pc := 17) cx dX7_addSection_17 ?_
  refine fp_X7_49 (pc := 18) cx dX7_addSection_18 (LWires_net h0) hf (fun M2 hf => ?_)
  refine g_aload_n (pc := 21) cx dX7_addSection_21 rfl 1 rfl ?_
  refine fg_X7_21 (pc := 22) cx dX7_addSection_22 h0 ?_
  refine fg_X7_67 (pc := 25) cx dX7_addSection_25 (LWires_service h0) ?_
  refine g_iload_n (pc := 28) cx dX7_addSection_28 rfl 0 rfl ?_
  refine g_iload_n (pc := 29) cx dX7_addSection_29 rfl 2 rfl ?_
  refine g_iast (pc := 30) cx (LService_needed (LWires_service h0)) dX7_addSection_30 hf (fun M3 hf => ?_)
  refine g_aload_n (pc := 31) cx dX7_addSection_31 rfl 1 rfl ?_
  refine fg_X7_28 (pc := 32) cx dX7_addSection_32 h0 ?_
  refine fg_X7_71 (pc := 35) cx dX7_addSection_35 (LWires_log h0) ?_
  refine g_iload_n (pc := 38) cx dX7_addSection_38 rfl 0 rfl ?_
  refine g_iload_n (pc := 39) cx dX7_addSection_39 rfl 3 rfl ?_
  refine g_iast (pc := 40) cx (LLog_feederAhead (LWires_log h0)) dX7_addSection_40 hf (fun M4 hf => ?_)
  refine g_aload_n (pc := 41) cx dX7_addSection_41 rfl 1 rfl ?_
  refine fg_X7_12 (pc := 42) cx dX7_addSection_42 h0 ?_
  refine fg_X7_74 (pc := 45) cx dX7_addSection_45 (LWires_net h0) ?_
  refine g_iload_n (pc := 48) cx dX7_addSection_48 rfl 0 rfl ?_
  refine g_iload_n (pc := 49) cx dX7_addSection_49 rfl 0 rfl ?_
  refine g_iast (pc := 50) cx (LNet_lowest (LWires_net h0)) dX7_addSection_50 hf (fun M5 hf => ?_)
  refine g_aload_n (pc := 51) cx dX7_addSection_51 rfl 1 rfl ?_
  refine fg_X7_12 (pc := 52) cx dX7_addSection_52 h0 ?_
  refine g_iload_n (pc := 55) cx dX7_addSection_55 rfl 0 rfl ?_
  refine g_iload_n (pc := 56) cx dX7_addSection_56 rfl 3 rfl ?_
  obtain ⟨q8, M6, hc7, hf⟩ := obn_some2 hf
  refine g_callVv (pc := 57) [.int v1, .int x2] [] cx lk_X7_77 vw_X2 (LNet_o (LWires_net h0)) (by decide) (c_X2_setFeeder (LWires_net h0) hc7) dX7_addSection_57 (Nat.le_of_ble_eq_true rfl) ?_
  refine g_iload_n (pc := 60) cx dX7_addSection_60 rfl 0 rfl ?_
  exact g_iret (pc := 61) cx en dX7_addSection_61 rfl hf
/-! X7_addIsolator -/
def f_X7_addIsolator (a0 : Nat) (M : Mm) (x1 : Int32) (x2 : Int32) : OR := bnd (M (a0 + 1) 1) fun v1 => bnd (mst M (a0 + 1) 1 ((M (a0 + 1) 1) + 1)) fun M2 => ckd v1 16 (bnd (mst M2 ((a0 + 1) + 2) (ix v1) x1) fun M3 => ckd v1 16 (bnd (mst M3 ((a0 + 1) + 3) (ix v1) x2) fun M4 => ckd v1 16 (bnd (mst M4 ((a0 + 16) + 5) (ix v1) 1) fun M5 => obn (f_X2_setIsolator (a0 + 1) M5 v1 1) fun _ M6 => (some (v1, M6)))))
set_option maxHeartbeats 4000000 in
set_option maxRecDepth 100000 in
theorem c_X7_addIsolator {l : Launch} {w : Wp} {L : Ly} {a0 : Nat} {M : Mm} {x1 : Int32} {x2 : Int32} {R0 : Int32 × Mm} (h0 : LWires w L (a0)) (hf : f_X7_addIsolator a0 M x1 x2 = some R0) : CT l w L yX7_addIsolator cX7_addIsolator 4 (some .int) 2 [.ref a0, .int x1, .int x2] M R0 := by
  unfold f_X7_addIsolator at hf
  refine CT_of pn_X7 (Nat.le_of_ble_eq_true rfl) (fun E cx en => ?_)
  have cx : Ok w L E RX7 cX7_addIsolator 4 2 := cx
  show G l w L E M [(0, .ref a0), (1, .int x1), (2, .int x2)] 0 []
  refine g_aload_n (pc := 0) cx dX7_addIsolator_0 rfl 0 rfl ?_
  refine fg_X7_12 (pc := 1) cx dX7_addIsolator_1 h0 ?_
  refine fg_X7_57 (pc := 4) cx dX7_addIsolator_4 (LWires_net h0) ?_
  refine g_nm hf (fun v1 hf => ?_)
  refine g_istore_n (pc := 7) cx [(3, .int v1), (0, .ref a0), (1, .int x1), (2, .int x2)] dX7_addIsolator_7 rfl (by decide) rfl ?_
  refine g_aload_n (pc := 8) cx dX7_addIsolator_8 rfl 1 rfl ?_
  refine fg_X7_12 (pc := 9) cx dX7_addIsolator_9 h0 ?_
  refine g_dup (pc := 12) cx dX7_addIsolator_12 rfl ?_
  refine fg_X7_57 (pc := 13) cx dX7_addIsolator_13 (LWires_net h0) ?_
  refine g_iconst (pc := 16) (v := 1) cx dX7_addIsolator_16 (by decide) ?_
  refine g_iadd (pc := 17) cx dX7_addIsolator_17 ?_
  refine fp_X7_57 (pc := 18) cx dX7_addIsolator_18 (LWires_net h0) hf (fun M2 hf => ?_)
  refine g_aload_n (pc := 21) cx dX7_addIsolator_21 rfl 1 rfl ?_
  refine fg_X7_12 (pc := 22) cx dX7_addIsolator_22 h0 ?_
  refine fg_X7_81 (pc := 25) cx dX7_addIsolator_25 (LWires_net h0) ?_
  refine g_iload_n (pc := 28) cx dX7_addIsolator_28 rfl 0 rfl ?_
  refine g_iload_n (pc := 29) cx dX7_addIsolator_29 rfl 2 rfl ?_
  refine g_iast (pc := 30) cx (LNet_one (LWires_net h0)) dX7_addIsolator_30 hf (fun M3 hf => ?_)
  refine g_aload_n (pc := 31) cx dX7_addIsolator_31 rfl 1 rfl ?_
  refine fg_X7_12 (pc := 32) cx dX7_addIsolator_32 h0 ?_
  refine fg_X7_84 (pc := 35) cx dX7_addIsolator_35 (LWires_net h0) ?_
  refine g_iload_n (pc := 38) cx dX7_addIsolator_38 rfl 0 rfl ?_
  refine g_iload_n (pc := 39) cx dX7_addIsolator_39 rfl 3 rfl ?_
  refine g_iast (pc := 40) cx (LNet_other (LWires_net h0)) dX7_addIsolator_40 hf (fun M4 hf => ?_)
  refine g_aload_n (pc := 41) cx dX7_addIsolator_41 rfl 1 rfl ?_
  refine fg_X7_28 (pc := 42) cx dX7_addIsolator_42 h0 ?_
  refine fg_X7_87 (pc := 45) cx dX7_addIsolator_45 (LWires_log h0) ?_
  refine g_iload_n (pc := 48) cx dX7_addIsolator_48 rfl 0 rfl ?_
  refine g_iconst (pc := 49) (v := 1) cx dX7_addIsolator_49 (by decide) ?_
  refine g_zast (pc := 50) cx (LLog_closedAhead (LWires_log h0)) dX7_addIsolator_50 hf (fun M5 hf => ?_)
  refine g_aload_n (pc := 51) cx dX7_addIsolator_51 rfl 1 rfl ?_
  refine fg_X7_12 (pc := 52) cx dX7_addIsolator_52 h0 ?_
  refine g_iload_n (pc := 55) cx dX7_addIsolator_55 rfl 0 rfl ?_
  refine g_iconst (pc := 56) (v := 1) cx dX7_addIsolator_56 (by decide) ?_
  obtain ⟨q8, M6, hc7, hf⟩ := obn_some2 hf
  refine g_callVv (pc := 57) [.int v1, .int 1] [] cx lk_X7_90 vw_X2 (LNet_o (LWires_net h0)) (by decide) (c_X2_setIsolator (LWires_net h0) hc7) dX7_addIsolator_57 (Nat.le_of_ble_eq_true rfl) ?_
  refine g_iload_n (pc := 60) cx dX7_addIsolator_60 rfl 0 rfl ?_
  exact g_iret (pc := 61) cx en dX7_addIsolator_61 rfl hf
/-! X7_joiningEndangers -/
def b_X7_joiningEndangers_135 (a0 : Nat) (rc2 : Mm → Int32 → OR) (M : Mm) (x1 : Int32) (x2 : Int32) (x3 : Int32) : OR := rc2 M (x3 + 1)
def b_X7_joiningEndangers_133 (a0 : Nat) (M : Mm) : OR := zrk 1 (some (1, M))
def b_X7_joiningEndangers_104 (a0 : Nat) (rc2 : Mm → Int32 → OR) (M : Mm) (x1 : Int32) (x2 : Int32) (x3 : Int32) (x4 : Int32) (x5 : Int32) (s0 : Int32) : OR := if x4 = 0 then b_X7_joiningEndangers_135 a0 rc2 M x1 x2 x3 else ckd x3 10 (if (zb (M ((a0 + 1) + 6) (ix x3))) = 0 then if x5 = 0 then if s0 = 0 then b_X7_joiningEndangers_135 a0 rc2 M x1 x2 x3 else b_X7_joiningEndangers_133 a0 M else b_X7_joiningEndangers_133 a0 M else b_X7_joiningEndangers_135 a0 rc2 M x1 x2 x3)
def b_X7_joiningEndangers_103 (a0 : Nat) (rc2 : Mm → Int32 → OR) (M : Mm) (x1 : Int32) (x2 : Int32) (x3 : Int32) (x4 : Int32) (x5 : Int32) : OR := b_X7_joiningEndangers_104 a0 rc2 M x1 x2 x3 x4 x5 0
def b_X7_joiningEndangers_73 (a0 : Nat) (rc2 : Mm → Int32 → OR) (M : Mm) (x1 : Int32) (x2 : Int32) (x3 : Int32) (x4 : Int32) (s0 : Int32) : OR := ckd x1 10 (if (zb (M ((a0 + 1) + 6) (ix x1))) = 0 then b_X7_joiningEndangers_103 a0 rc2 M x1 x2 x3 x4 s0 else obn (f_X2_areTogether (a0 + 1) M x3 x2) fun q3 M1 => (if q3 = 0 then b_X7_joiningEndangers_103 a0 rc2 M1 x1 x2 x3 x4 s0 else b_X7_joiningEndangers_104 a0 rc2 M1 x1 x2 x3 x4 s0 1))
def b_X7_joiningEndangers_72 (a0 : Nat) (rc2 : Mm → Int32 → OR) (M : Mm) (x1 : Int32) (x2 : Int32) (x3 : Int32) (x4 : Int32) : OR := b_X7_joiningEndangers_73 a0 rc2 M x1 x2 x3 x4 0
def b_X7_joiningEndangers_42 (a0 : Nat) (rc2 : Mm → Int32 → OR) (M : Mm) (x1 : Int32) (x2 : Int32) (x3 : Int32) (s0 : Int32) : OR := ckd x2 10 (if (zb (M ((a0 + 1) + 6) (ix x2))) = 0 then b_X7_joiningEndangers_72 a0 rc2 M x1 x2 x3 s0 else obn (f_X2_areTogether (a0 + 1) M x3 x1) fun q3 M1 => (if q3 = 0 then b_X7_joiningEndangers_72 a0 rc2 M1 x1 x2 x3 s0 else b_X7_joiningEndangers_73 a0 rc2 M1 x1 x2 x3 s0 1))
def b_X7_joiningEndangers_37 (a0 : Nat) (rc2 : Mm → Int32 → OR) (M : Mm) (x1 : Int32) (x2 : Int32) (x3 : Int32) : OR := b_X7_joiningEndangers_42 a0 rc2 M x1 x2 x3 1
def l_X7_joiningEndangers_2 (a0 : Nat) (x1 : Int32) (x2 : Int32) : Nat → Mm → Int32 → OR
  | 0, _, _ => none
  | k + 1, M, x3 => if x3 < (M (a0 + 1) 0) then ckd x3 10 (if (zb (M ((a0 + 8) + 3) (ix x3))) = 0 then ckd x3 10 (if 0 < (M ((a0 + 8) + 7) (ix x3)) then b_X7_joiningEndangers_37 a0 (l_X7_joiningEndangers_2 a0 x1 x2 k) M x1 x2 x3 else b_X7_joiningEndangers_42 a0 (l_X7_joiningEndangers_2 a0 x1 x2 k) M x1 x2 x3 0) else b_X7_joiningEndangers_37 a0 (l_X7_joiningEndangers_2 a0 x1 x2 k) M x1 x2 x3) else zrk 0 (some (0, M))
def f_X7_joiningEndangers (a0 : Nat) (M : Mm) (x1 : Int32) (x2 : Int32) : OR := l_X7_joiningEndangers_2 a0 x1 x2 FU M 0
set_option maxHeartbeats 4000000 in
set_option maxRecDepth 100000 in
theorem w_X7_joiningEndangers_135 {l : Launch} {w : Wp} {L : Ly} {E : Cx} {a0 : Nat} {rc2 : Mm → Int32 → OR} {x1 : Int32} {x2 : Int32} {x3 : Int32} {R0 : Int32 × Mm} (cx : Ok w L E RX7 cX7_joiningEndangers 7 1) (en : En w L E (some .boolean) R0) (h0 : LWires w L (a0)) (hrc2 : ∀ (M : Mm) (x3 : Int32), rc2 M x3 = some R0 → G l w L E M [(0, .ref a0), (1, .int x1), (2, .int x2), (3, .int x3)] 2 []) {M : Mm} (hf : b_X7_joiningEndangers_135 a0 rc2 M x1 x2 x3 = some R0) : G l w L E M [(0, .ref a0), (1, .int x1), (2, .int x2), (3, .int x3)] 135 [] := by
  unfold b_X7_joiningEndangers_135 at hf
  refine g_iinc (pc := 135) cx [(3, .int (x3 + 1)), (0, .ref a0), (1, .int x1), (2, .int x2)] dX7_joiningEndangers_135 3 rfl rfl (by decide) rfl ?_
  refine g_goto (pc := 138) (tgt := 2) cx dX7_joiningEndangers_138 rfl ?_
  refine g_sub [1, 2, 3, 0] [(0, .ref a0), (1, .int x1), (2, .int x2), (3, .int (x3 + 1))] rfl ?_
  exact hrc2 _ _ hf
set_option maxHeartbeats 4000000 in
set_option maxRecDepth 100000 in
theorem w_X7_joiningEndangers_133 {l : Launch} {w : Wp} {L : Ly} {E : Cx} {a0 : Nat} {R0 : Int32 × Mm} (cx : Ok w L E RX7 cX7_joiningEndangers 7 1) (en : En w L E (some .boolean) R0) (h0 : LWires w L (a0)) {M : Mm} (hf : b_X7_joiningEndangers_133 a0 M = some R0) : G l w L E M [] 133 [] := by
  unfold b_X7_joiningEndangers_133 at hf
  refine g_iconst (pc := 133) (v := 1) cx dX7_joiningEndangers_133 (by decide) ?_
  exact g_zret (pc := 134) cx en dX7_joiningEndangers_134 hf
set_option maxHeartbeats 4000000 in
set_option maxRecDepth 100000 in
theorem w_X7_joiningEndangers_104 {l : Launch} {w : Wp} {L : Ly} {E : Cx} {a0 : Nat} {rc2 : Mm → Int32 → OR} {x1 : Int32} {x2 : Int32} {x3 : Int32} {x4 : Int32} {x5 : Int32} {s0 : Int32} {R0 : Int32 × Mm} (cx : Ok w L E RX7 cX7_joiningEndangers 7 1) (en : En w L E (some .boolean) R0) (h0 : LWires w L (a0)) (hrc2 : ∀ (M : Mm) (x3 : Int32), rc2 M x3 = some R0 → G l w L E M [(0, .ref a0), (1, .int x1), (2, .int x2), (3, .int x3)] 2 []) {M : Mm} (hf : b_X7_joiningEndangers_104 a0 rc2 M x1 x2 x3 x4 x5 s0 = some R0) : G l w L E M [(0, .ref a0), (1, .int x1), (2, .int x2), (3, .int x3), (4, .int x4), (5, .int x5)] 104 [.int s0] := by
  unfold b_X7_joiningEndangers_104 at hf
  refine g_istore (pc := 104) cx [(6, .int s0), (0, .ref a0), (1, .int x1), (2, .int x2), (3, .int x3), (4, .int x4), (5, .int x5)] dX7_joiningEndangers_104 (by decide) rfl ?_
  refine g_iload (pc := 106) cx dX7_joiningEndangers_106 5 rfl ?_
  refine g_if_eq (pc := 108) (tgt := 135) cx dX7_joiningEndangers_108 rfl hf (fun hf => ?_) (fun hf => ?_)
  · refine g_sub [1, 2, 3, 4] [(0, .ref a0), (1, .int x1), (2, .int x2), (3, .int x3)] rfl ?_
    exact w_X7_joiningEndangers_135 cx en h0 hrc2 hf
  · refine g_aload_n (pc := 111) cx dX7_joiningEndangers_111 rfl 1 rfl ?_
    refine fg_X7_12 (pc := 112) cx dX7_joiningEndangers_112 h0 ?_
    refine fg_X7_100 (pc := 115) cx dX7_joiningEndangers_115 (LWires_net h0) ?_
    refine g_iload_n (pc := 118) cx dX7_joiningEndangers_118 rfl 4 rfl ?_
    refine g_zald (pc := 119) cx (LNet_live (LWires_net h0)) dX7_joiningEndangers_119 hf (fun hf => ?_)
    refine g_if_ne (pc := 120) (tgt := 135) cx dX7_joiningEndangers_120 rfl hf (fun hf => ?_) (fun hf => ?_)
    · refine g_iload (pc := 123) cx dX7_joiningEndangers_123 6 rfl ?_
      refine g_if_ne (pc := 125) (tgt := 133) cx dX7_joiningEndangers_125 rfl hf (fun hf => ?_) (fun hf => ?_)
      · refine g_iload (pc := 128) cx dX7_joiningEndangers_128 0 rfl ?_
        refine g_if_eq (pc := 130) (tgt := 135) cx dX7_joiningEndangers_130 rfl hf (fun hf => ?_) (fun hf => ?_)
        · refine g_sub [1, 2, 3, 4] [(0, .ref a0), (1, .int x1), (2, .int x2), (3, .int x3)] rfl ?_
          exact w_X7_joiningEndangers_135 cx en h0 hrc2 hf
        · refine g_sub [] [] rfl ?_
          exact w_X7_joiningEndangers_133 cx en h0 hf
      · refine g_sub [] [] rfl ?_
        exact w_X7_joiningEndangers_133 cx en h0 hf
    · refine g_sub [1, 2, 3, 4] [(0, .ref a0), (1, .int x1), (2, .int x2), (3, .int x3)] rfl ?_
      exact w_X7_joiningEndangers_135 cx en h0 hrc2 hf
set_option maxHeartbeats 4000000 in
set_option maxRecDepth 100000 in
theorem w_X7_joiningEndangers_103 {l : Launch} {w : Wp} {L : Ly} {E : Cx} {a0 : Nat} {rc2 : Mm → Int32 → OR} {x1 : Int32} {x2 : Int32} {x3 : Int32} {x4 : Int32} {x5 : Int32} {R0 : Int32 × Mm} (cx : Ok w L E RX7 cX7_joiningEndangers 7 1) (en : En w L E (some .boolean) R0) (h0 : LWires w L (a0)) (hrc2 : ∀ (M : Mm) (x3 : Int32), rc2 M x3 = some R0 → G l w L E M [(0, .ref a0), (1, .int x1), (2, .int x2), (3, .int x3)] 2 []) {M : Mm} (hf : b_X7_joiningEndangers_103 a0 rc2 M x1 x2 x3 x4 x5 = some R0) : G l w L E M [(0, .ref a0), (1, .int x1), (2, .int x2), (3, .int x3), (4, .int x4), (5, .int x5)] 103 [] := by
  unfold b_X7_joiningEndangers_103 at hf
  refine g_iconst (pc := 103) (v := 0) cx dX7_joiningEndangers_103 (by decide) ?_
  exact w_X7_joiningEndangers_104 cx en h0 hrc2 hf
set_option maxHeartbeats 4000000 in
set_option maxRecDepth 100000 in
theorem w_X7_joiningEndangers_73 {l : Launch} {w : Wp} {L : Ly} {E : Cx} {a0 : Nat} {rc2 : Mm → Int32 → OR} {x1 : Int32} {x2 : Int32} {x3 : Int32} {x4 : Int32} {s0 : Int32} {R0 : Int32 × Mm} (cx : Ok w L E RX7 cX7_joiningEndangers 7 1) (en : En w L E (some .boolean) R0) (h0 : LWires w L (a0)) (hrc2 : ∀ (M : Mm) (x3 : Int32), rc2 M x3 = some R0 → G l w L E M [(0, .ref a0), (1, .int x1), (2, .int x2), (3, .int x3)] 2 []) {M : Mm} (hf : b_X7_joiningEndangers_73 a0 rc2 M x1 x2 x3 x4 s0 = some R0) : G l w L E M [(0, .ref a0), (1, .int x1), (2, .int x2), (3, .int x3), (4, .int x4)] 73 [.int s0] := by
  unfold b_X7_joiningEndangers_73 at hf
  refine g_istore (pc := 73) cx [(5, .int s0), (0, .ref a0), (1, .int x1), (2, .int x2), (3, .int x3), (4, .int x4)] dX7_joiningEndangers_73 (by decide) rfl ?_
  refine g_aload_n (pc := 75) cx dX7_joiningEndangers_75 rfl 1 rfl ?_
  refine fg_X7_12 (pc := 76) cx dX7_joiningEndangers_76 h0 ?_
  refine fg_X7_100 (pc := 79) cx dX7_joiningEndangers_79 (LWires_net h0) ?_
  refine g_iload_n (pc := 82) cx dX7_joiningEndangers_82 rfl 2 rfl ?_
  refine g_zald (pc := 83) cx (LNet_live (LWires_net h0)) dX7_joiningEndangers_83 hf (fun hf => ?_)
  refine g_if_eq (pc := 84) (tgt := 103) cx dX7_joiningEndangers_84 rfl hf (fun hf => ?_) (fun hf => ?_)
  · refine g_sub [1, 2, 3, 4, 5, 0] [(0, .ref a0), (1, .int x1), (2, .int x2), (3, .int x3), (4, .int x4), (5, .int s0)] rfl ?_
    exact w_X7_joiningEndangers_103 cx en h0 hrc2 hf
  · refine g_aload_n (pc := 87) cx dX7_joiningEndangers_87 rfl 1 rfl ?_
    refine fg_X7_12 (pc := 88) cx dX7_joiningEndangers_88 h0 ?_
    refine g_iload_n (pc := 91) cx dX7_joiningEndangers_91 rfl 4 rfl ?_
    refine g_iload_n (pc := 92) cx dX7_joiningEndangers_92 rfl 3 rfl ?_
    obtain ⟨q3, M1, hc2, hf⟩ := obn_some2 hf
    refine g_callVi (pc := 93) [.int x3, .int x2] [] cx lk_X7_103 vw_X2 (LNet_o (LWires_net h0)) (by decide) (c_X2_areTogether (LWires_net h0) hc2) dX7_joiningEndangers_93 (Nat.le_of_ble_eq_true rfl) ?_
    refine g_if_eq (pc := 96) (tgt := 103) cx dX7_joiningEndangers_96 rfl hf (fun hf => ?_) (fun hf => ?_)
    · refine g_sub [1, 2, 3, 4, 5, 0] [(0, .ref a0), (1, .int x1), (2, .int x2), (3, .int x3), (4, .int x4), (5, .int s0)] rfl ?_
      exact w_X7_joiningEndangers_103 cx en h0 hrc2 hf
    · refine g_iconst (pc := 99) (v := 1) cx dX7_joiningEndangers_99 (by decide) ?_
      refine g_goto (pc := 100) (tgt := 104) cx dX7_joiningEndangers_100 rfl ?_
      refine g_sub [1, 2, 3, 4, 5, 0] [(0, .ref a0), (1, .int x1), (2, .int x2), (3, .int x3), (4, .int x4), (5, .int s0)] rfl ?_
      exact w_X7_joiningEndangers_104 cx en h0 hrc2 hf
set_option maxHeartbeats 4000000 in
set_option maxRecDepth 100000 in
theorem w_X7_joiningEndangers_72 {l : Launch} {w : Wp} {L : Ly} {E : Cx} {a0 : Nat} {rc2 : Mm → Int32 → OR} {x1 : Int32} {x2 : Int32} {x3 : Int32} {x4 : Int32} {R0 : Int32 × Mm} (cx : Ok w L E RX7 cX7_joiningEndangers 7 1) (en : En w L E (some .boolean) R0) (h0 : LWires w L (a0)) (hrc2 : ∀ (M : Mm) (x3 : Int32), rc2 M x3 = some R0 → G l w L E M [(0, .ref a0), (1, .int x1), (2, .int x2), (3, .int x3)] 2 []) {M : Mm} (hf : b_X7_joiningEndangers_72 a0 rc2 M x1 x2 x3 x4 = some R0) : G l w L E M [(0, .ref a0), (1, .int x1), (2, .int x2), (3, .int x3), (4, .int x4)] 72 [] := by
  unfold b_X7_joiningEndangers_72 at hf
  refine g_iconst (pc := 72) (v := 0) cx dX7_joiningEndangers_72 (by decide) ?_
  exact w_X7_joiningEndangers_73 cx en h0 hrc2 hf
set_option maxHeartbeats 4000000 in
set_option maxRecDepth 100000 in
theorem w_X7_joiningEndangers_42 {l : Launch} {w : Wp} {L : Ly} {E : Cx} {a0 : Nat} {rc2 : Mm → Int32 → OR} {x1 : Int32} {x2 : Int32} {x3 : Int32} {s0 : Int32} {R0 : Int32 × Mm} (cx : Ok w L E RX7 cX7_joiningEndangers 7 1) (en : En w L E (some .boolean) R0) (h0 : LWires w L (a0)) (hrc2 : ∀ (M : Mm) (x3 : Int32), rc2 M x3 = some R0 → G l w L E M [(0, .ref a0), (1, .int x1), (2, .int x2), (3, .int x3)] 2 []) {M : Mm} (hf : b_X7_joiningEndangers_42 a0 rc2 M x1 x2 x3 s0 = some R0) : G l w L E M [(0, .ref a0), (1, .int x1), (2, .int x2), (3, .int x3)] 42 [.int s0] := by
  unfold b_X7_joiningEndangers_42 at hf
  refine g_istore (pc := 42) cx [(4, .int s0), (0, .ref a0), (1, .int x1), (2, .int x2), (3, .int x3)] dX7_joiningEndangers_42 (by decide) rfl ?_
  refine g_aload_n (pc := 44) cx dX7_joiningEndangers_44 rfl 1 rfl ?_
  refine fg_X7_12 (pc := 45) cx dX7_joiningEndangers_45 h0 ?_
  refine fg_X7_100 (pc := 48) cx dX7_joiningEndangers_48 (LWires_net h0) ?_
  refine g_iload_n (pc := 51) cx dX7_joiningEndangers_51 rfl 3 rfl ?_
  refine g_zald (pc := 52) cx (LNet_live (LWires_net h0)) dX7_joiningEndangers_52 hf (fun hf => ?_)
  refine g_if_eq (pc := 53) (tgt := 72) cx dX7_joiningEndangers_53 rfl hf (fun hf => ?_) (fun hf => ?_)
  · refine g_sub [1, 2, 3, 4, 0] [(0, .ref a0), (1, .int x1), (2, .int x2), (3, .int x3), (4, .int s0)] rfl ?_
    exact w_X7_joiningEndangers_72 cx en h0 hrc2 hf
  · refine g_aload_n (pc := 56) cx dX7_joiningEndangers_56 rfl 1 rfl ?_
    refine fg_X7_12 (pc := 57) cx dX7_joiningEndangers_57 h0 ?_
    refine g_iload_n (pc := 60) cx dX7_joiningEndangers_60 rfl 4 rfl ?_
    refine g_iload_n (pc := 61) cx dX7_joiningEndangers_61 rfl 2 rfl ?_
    obtain ⟨q3, M1, hc2, hf⟩ := obn_some2 hf
    refine g_callVi (pc := 62) [.int x3, .int x1] [] cx lk_X7_103 vw_X2 (LNet_o (LWires_net h0)) (by decide) (c_X2_areTogether (LWires_net h0) hc2) dX7_joiningEndangers_62 (Nat.le_of_ble_eq_true rfl) ?_
    refine g_if_eq (pc := 65) (tgt := 72) cx dX7_joiningEndangers_65 rfl hf (fun hf => ?_) (fun hf => ?_)
    · refine g_sub [1, 2, 3, 4, 0] [(0, .ref a0), (1, .int x1), (2, .int x2), (3, .int x3), (4, .int s0)] rfl ?_
      exact w_X7_joiningEndangers_72 cx en h0 hrc2 hf
    · refine g_iconst (pc := 68) (v := 1) cx dX7_joiningEndangers_68 (by decide) ?_
      refine g_goto (pc := 69) (tgt := 73) cx dX7_joiningEndangers_69 rfl ?_
      refine g_sub [1, 2, 3, 4, 0] [(0, .ref a0), (1, .int x1), (2, .int x2), (3, .int x3), (4, .int s0)] rfl ?_
      exact w_X7_joiningEndangers_73 cx en h0 hrc2 hf
set_option maxHeartbeats 4000000 in
set_option maxRecDepth 100000 in
theorem w_X7_joiningEndangers_37 {l : Launch} {w : Wp} {L : Ly} {E : Cx} {a0 : Nat} {rc2 : Mm → Int32 → OR} {x1 : Int32} {x2 : Int32} {x3 : Int32} {R0 : Int32 × Mm} (cx : Ok w L E RX7 cX7_joiningEndangers 7 1) (en : En w L E (some .boolean) R0) (h0 : LWires w L (a0)) (hrc2 : ∀ (M : Mm) (x3 : Int32), rc2 M x3 = some R0 → G l w L E M [(0, .ref a0), (1, .int x1), (2, .int x2), (3, .int x3)] 2 []) {M : Mm} (hf : b_X7_joiningEndangers_37 a0 rc2 M x1 x2 x3 = some R0) : G l w L E M [(0, .ref a0), (1, .int x1), (2, .int x2), (3, .int x3)] 37 [] := by
  unfold b_X7_joiningEndangers_37 at hf
  refine g_iconst (pc := 37) (v := 1) cx dX7_joiningEndangers_37 (by decide) ?_
  refine g_goto (pc := 38) (tgt := 42) cx dX7_joiningEndangers_38 rfl ?_
  exact w_X7_joiningEndangers_42 cx en h0 hrc2 hf
set_option maxHeartbeats 4000000 in
set_option maxRecDepth 100000 in
theorem w_X7_joiningEndangers_2 {l : Launch} {w : Wp} {L : Ly} {E : Cx} {a0 : Nat} {x1 : Int32} {x2 : Int32} {R0 : Int32 × Mm} (cx : Ok w L E RX7 cX7_joiningEndangers 7 1) (en : En w L E (some .boolean) R0) (h0 : LWires w L (a0)) : ∀ (k : Nat) {M : Mm} {x3 : Int32}, l_X7_joiningEndangers_2 a0 x1 x2 k M x3 = some R0 → G l w L E M [(0, .ref a0), (1, .int x1), (2, .int x2), (3, .int x3)] 2 [] := by
  intro k
  induction k with
  | zero =>
    intro M x3 hf
    exact absurd hf (by simp [l_X7_joiningEndangers_2])
  | succ k ih =>
    intro M x3 hf
    unfold l_X7_joiningEndangers_2 at hf
    refine g_iload_n (pc := 2) cx dX7_joiningEndangers_2 rfl 3 rfl ?_
    refine g_aload_n (pc := 3) cx dX7_joiningEndangers_3 rfl 0 rfl ?_
    refine fg_X7_12 (pc := 4) cx dX7_joiningEndangers_4 h0 ?_
    refine fg_X7_49 (pc := 7) cx dX7_joiningEndangers_7 (LWires_net h0) ?_
    refine g_icmp_ge (pc := 10) (tgt := 141) cx dX7_joiningEndangers_10 rfl hf (fun hf => ?_) (fun hf => ?_)
    · refine g_aload_n (pc := 13) cx dX7_joiningEndangers_13 rfl 0 rfl ?_
      refine fg_X7_21 (pc := 14) cx dX7_joiningEndangers_14 h0 ?_
      refine fg_X7_94 (pc := 17) cx dX7_joiningEndangers_17 (LWires_service h0) ?_
      refine g_iload_n (pc := 20) cx dX7_joiningEndangers_20 rfl 3 rfl ?_
      refine g_zald (pc := 21) cx (LService_earthed (LWires_service h0)) dX7_joiningEndangers_21 hf (fun hf => ?_)
      refine g_if_ne (pc := 22) (tgt := 37) cx dX7_joiningEndangers_22 rfl hf (fun hf => ?_) (fun hf => ?_)
      · refine g_aload_n (pc := 25) cx dX7_joiningEndangers_25 rfl 0 rfl ?_
        refine fg_X7_21 (pc := 26) cx dX7_joiningEndangers_26 h0 ?_
        refine fg_X7_97 (pc := 29) cx dX7_joiningEndangers_29 (LWires_service h0) ?_
        refine g_iload_n (pc := 32) cx dX7_joiningEndangers_32 rfl 3 rfl ?_
        refine g_iald (pc := 33) cx (LService_tools (LWires_service h0)) dX7_joiningEndangers_33 hf (fun hf => ?_)
        refine g_if_le (pc := 34) (tgt := 41) cx dX7_joiningEndangers_34 rfl hf (fun hf => ?_) (fun hf => ?_)
        · exact w_X7_joiningEndangers_37 cx en h0 (fun _ _ hf => ih hf) hf
        · refine g_iconst (pc := 41) (v := 0) cx dX7_joiningEndangers_41 (by decide) ?_
          exact w_X7_joiningEndangers_42 cx en h0 (fun _ _ hf => ih hf) hf
      · exact w_X7_joiningEndangers_37 cx en h0 (fun _ _ hf => ih hf) hf
    · refine g_iconst (pc := 141) (v := 0) cx dX7_joiningEndangers_141 (by decide) ?_
      exact g_zret (pc := 142) cx en dX7_joiningEndangers_142 hf
set_option maxHeartbeats 4000000 in
set_option maxRecDepth 100000 in
theorem c_X7_joiningEndangers {l : Launch} {w : Wp} {L : Ly} {a0 : Nat} {M : Mm} {x1 : Int32} {x2 : Int32} {R0 : Int32 × Mm} (h0 : LWires w L (a0)) (hf : f_X7_joiningEndangers a0 M x1 x2 = some R0) : CT l w L yX7_joiningEndangers cX7_joiningEndangers 7 (some .boolean) 1 [.ref a0, .int x1, .int x2] M R0 := by
  unfold f_X7_joiningEndangers at hf
  refine CT_of pn_X7 (Nat.le_of_ble_eq_true rfl) (fun E cx en => ?_)
  have cx : Ok w L E RX7 cX7_joiningEndangers 7 1 := cx
  show G l w L E M [(0, .ref a0), (1, .int x1), (2, .int x2)] 0 []
  refine g_iconst (pc := 0) (v := 0) cx dX7_joiningEndangers_0 (by decide) ?_
  refine g_istore_n (pc := 1) cx [(3, .int 0), (0, .ref a0), (1, .int x1), (2, .int x2)] dX7_joiningEndangers_1 rfl (by decide) rfl ?_
  refine g_sub [1, 2, 3, 0] [(0, .ref a0), (1, .int x1), (2, .int x2), (3, .int 0)] rfl ?_
  exact w_X7_joiningEndangers_2 cx en h0 FU hf
/-! X7_supposeIsolator -/
def f_X7_supposeIsolator (a0 : Nat) (M : Mm) (x1 : Int32) (x2 : Int32) : OR := obn (f_X2_copyFrom (a0 + 24) (a0 + 1) M) fun _ M1 => (obn (f_X2_setIsolator (a0 + 24) M1 x1 x2) fun _ M4 => (some (0, M4)))
set_option maxHeartbeats 4000000 in
set_option maxRecDepth 100000 in
theorem c_X7_supposeIsolator {l : Launch} {w : Wp} {L : Ly} {a0 : Nat} {M : Mm} {x1 : Int32} {x2 : Int32} {R0 : Int32 × Mm} (h0 : LWires w L (a0)) (hf : f_X7_supposeIsolator a0 M x1 x2 = some R0) : CT l w L yX7_supposeIsolator cX7_supposeIsolator 3 none 2 [.ref a0, .int x1, .int x2] M R0 := by
  unfold f_X7_supposeIsolator at hf
  refine CT_of pn_X7 (Nat.le_of_ble_eq_true rfl) (fun E cx en => ?_)
  have cx : Ok w L E RX7 cX7_supposeIsolator 3 2 := cx
  show G l w L E M [(0, .ref a0), (1, .int x1), (2, .int x2)] 0 []
  refine g_aload_n (pc := 0) cx dX7_supposeIsolator_0 rfl 0 rfl ?_
  refine fg_X7_32 (pc := 1) cx dX7_supposeIsolator_1 h0 ?_
  refine g_aload_n (pc := 4) cx dX7_supposeIsolator_4 rfl 0 rfl ?_
  refine fg_X7_12 (pc := 5) cx dX7_supposeIsolator_5 h0 ?_
  obtain ⟨q3, M1, hc2, hf⟩ := obn_some2 hf
  refine g_callVv (pc := 8) [.ref (a0 + 1)] [] cx lk_X7_39 vw_X2 (LNet_o (LWires_supposed h0)) (by decide) (c_X2_copyFrom (LWires_supposed h0) (LWires_net h0) hc2) dX7_supposeIsolator_8 (Nat.le_of_ble_eq_true rfl) ?_
  refine g_aload_n (pc := 11) cx dX7_supposeIsolator_11 rfl 0 rfl ?_
  refine fg_X7_32 (pc := 12) cx dX7_supposeIsolator_12 h0 ?_
  refine g_iload_n (pc := 15) cx dX7_supposeIsolator_15 rfl 1 rfl ?_
  refine g_iload_n (pc := 16) cx dX7_supposeIsolator_16 rfl 2 rfl ?_
  obtain ⟨q6, M4, hc5, hf⟩ := obn_some2 hf
  refine g_callVv (pc := 17) [.int x1, .int x2] [] cx lk_X7_90 vw_X2 (LNet_o (LWires_supposed h0)) (by decide) (c_X2_setIsolator (LWires_supposed h0) hc5) dX7_supposeIsolator_17 (Nat.le_of_ble_eq_true rfl) ?_
  exact g_vret (pc := 20) cx en dX7_supposeIsolator_20 hf
/-! X7_wouldDarken -/
def b_X7_wouldDarken_29 (a0 : Nat) (M : Mm) (s0 : Int32) : OR := zrk s0 (some (s0, M))
def b_X7_wouldDarken_28 (a0 : Nat) (M : Mm) : OR := b_X7_wouldDarken_29 a0 M 0
def f_X7_wouldDarken (a0 : Nat) (M : Mm) (x1 : Int32) : OR := ckd x1 10 (if (zb (M ((a0 + 1) + 6) (ix x1))) = 0 then b_X7_wouldDarken_28 a0 M else ckd x1 10 (if (zb (M ((a0 + 24) + 6) (ix x1))) = 0 then b_X7_wouldDarken_29 a0 M 1 else b_X7_wouldDarken_28 a0 M))
set_option maxHeartbeats 4000000 in
set_option maxRecDepth 100000 in
theorem w_X7_wouldDarken_29 {l : Launch} {w : Wp} {L : Ly} {E : Cx} {a0 : Nat} {s0 : Int32} {R0 : Int32 × Mm} (cx : Ok w L E RX7 cX7_wouldDarken 2 0) (en : En w L E (some .boolean) R0) (h0 : LWires w L (a0)) {M : Mm} (hf : b_X7_wouldDarken_29 a0 M s0 = some R0) : G l w L E M [] 29 [.int s0] := by
  unfold b_X7_wouldDarken_29 at hf
  exact g_zret (pc := 29) cx en dX7_wouldDarken_29 hf
set_option maxHeartbeats 4000000 in
set_option maxRecDepth 100000 in
theorem w_X7_wouldDarken_28 {l : Launch} {w : Wp} {L : Ly} {E : Cx} {a0 : Nat} {R0 : Int32 × Mm} (cx : Ok w L E RX7 cX7_wouldDarken 2 0) (en : En w L E (some .boolean) R0) (h0 : LWires w L (a0)) {M : Mm} (hf : b_X7_wouldDarken_28 a0 M = some R0) : G l w L E M [] 28 [] := by
  unfold b_X7_wouldDarken_28 at hf
  refine g_iconst (pc := 28) (v := 0) cx dX7_wouldDarken_28 (by decide) ?_
  exact w_X7_wouldDarken_29 cx en h0 hf
set_option maxHeartbeats 4000000 in
set_option maxRecDepth 100000 in
theorem c_X7_wouldDarken {l : Launch} {w : Wp} {L : Ly} {a0 : Nat} {M : Mm} {x1 : Int32} {R0 : Int32 × Mm} (h0 : LWires w L (a0)) (hf : f_X7_wouldDarken a0 M x1 = some R0) : CT l w L yX7_wouldDarken cX7_wouldDarken 2 (some .boolean) 0 [.ref a0, .int x1] M R0 := by
  unfold f_X7_wouldDarken at hf
  refine CT_of pn_X7 (Nat.le_of_ble_eq_true rfl) (fun E cx en => ?_)
  have cx : Ok w L E RX7 cX7_wouldDarken 2 0 := cx
  show G l w L E M [(0, .ref a0), (1, .int x1)] 0 []
  refine g_aload_n (pc := 0) cx dX7_wouldDarken_0 rfl 0 rfl ?_
  refine fg_X7_12 (pc := 1) cx dX7_wouldDarken_1 h0 ?_
  refine fg_X7_100 (pc := 4) cx dX7_wouldDarken_4 (LWires_net h0) ?_
  refine g_iload_n (pc := 7) cx dX7_wouldDarken_7 rfl 1 rfl ?_
  refine g_zald (pc := 8) cx (LNet_live (LWires_net h0)) dX7_wouldDarken_8 hf (fun hf => ?_)
  refine g_if_eq (pc := 9) (tgt := 28) cx dX7_wouldDarken_9 rfl hf (fun hf => ?_) (fun hf => ?_)
  · refine g_sub [] [] rfl ?_
    exact w_X7_wouldDarken_28 cx en h0 hf
  · refine g_aload_n (pc := 12) cx dX7_wouldDarken_12 rfl 0 rfl ?_
    refine fg_X7_32 (pc := 13) cx dX7_wouldDarken_13 h0 ?_
    refine fg_X7_100 (pc := 16) cx dX7_wouldDarken_16 (LWires_supposed h0) ?_
    refine g_iload_n (pc := 19) cx dX7_wouldDarken_19 rfl 1 rfl ?_
    refine g_zald (pc := 20) cx (LNet_live (LWires_supposed h0)) dX7_wouldDarken_20 hf (fun hf => ?_)
    refine g_if_ne (pc := 21) (tgt := 28) cx dX7_wouldDarken_21 rfl hf (fun hf => ?_) (fun hf => ?_)
    · refine g_iconst (pc := 24) (v := 1) cx dX7_wouldDarken_24 (by decide) ?_
      refine g_goto (pc := 25) (tgt := 29) cx dX7_wouldDarken_25 rfl ?_
      refine g_sub [] [] rfl ?_
      exact w_X7_wouldDarken_29 cx en h0 hf
    · refine g_sub [] [] rfl ?_
      exact w_X7_wouldDarken_28 cx en h0 hf
/-! X7_darkenedByOpening -/
def b_X7_darkenedByOpening_32 (a0 : Nat) (rc10 : Mm → Int32 → Int32 → OR) (M : Mm) (x2 : Int32) (x3 : Int32) : OR := rc10 M x2 (x3 + 1)
def l_X7_darkenedByOpening_10 (a0 : Nat) : Nat → Mm → Int32 → Int32 → OR
  | 0, _, _, _ => none
  | k + 1, M, x2, x3 => if x3 < (M (a0 + 1) 0) then obn (f_X7_wouldDarken a0 M x3) fun q3 M1 => (if q3 = 0 then b_X7_darkenedByOpening_32 a0 (l_X7_darkenedByOpening_10 a0 k) M1 x2 x3 else b_X7_darkenedByOpening_32 a0 (l_X7_darkenedByOpening_10 a0 k) M1 (x2 + 1) x3) else some (x2, M)
def f_X7_darkenedByOpening (a0 : Nat) (M : Mm) (x1 : Int32) : OR := obn (f_X7_supposeIsolator a0 M x1 0) fun _ M1 => (l_X7_darkenedByOpening_10 a0 FU M1 0 0)
set_option maxHeartbeats 4000000 in
set_option maxRecDepth 100000 in
theorem w_X7_darkenedByOpening_32 {l : Launch} {w : Wp} {L : Ly} {E : Cx} {a0 : Nat} {rc10 : Mm → Int32 → Int32 → OR} {x2 : Int32} {x3 : Int32} {R0 : Int32 × Mm} (cx : Ok w L E RX7 cX7_darkenedByOpening 4 3) (en : En w L E (some .int) R0) (h0 : LWires w L (a0)) (hrc10 : ∀ (M : Mm) (x2 : Int32) (x3 : Int32), rc10 M x2 x3 = some R0 → G l w L E M [(0, .ref a0), (2, .int x2), (3, .int x3)] 10 []) {M : Mm} (hf : b_X7_darkenedByOpening_32 a0 rc10 M x2 x3 = some R0) : G l w L E M [(0, .ref a0), (2, .int x2), (3, .int x3)] 32 [] := by
  unfold b_X7_darkenedByOpening_32 at hf
  refine g_iinc (pc := 32) cx [(3, .int (x3 + 1)), (0, .ref a0), (2, .int x2)] dX7_darkenedByOpening_32 2 rfl rfl (by decide) rfl ?_
  refine g_goto (pc := 35) (tgt := 10) cx dX7_darkenedByOpening_35 rfl ?_
  refine g_sub [1, 2, 0] [(0, .ref a0), (2, .int x2), (3, .int (x3 + 1))] rfl ?_
  exact hrc10 _ _ _ hf
set_option maxHeartbeats 4000000 in
set_option maxRecDepth 100000 in
theorem w_X7_darkenedByOpening_10 {l : Launch} {w : Wp} {L : Ly} {E : Cx} {a0 : Nat} {R0 : Int32 × Mm} (cx : Ok w L E RX7 cX7_darkenedByOpening 4 3) (en : En w L E (some .int) R0) (h0 : LWires w L (a0)) : ∀ (k : Nat) {M : Mm} {x2 : Int32} {x3 : Int32}, l_X7_darkenedByOpening_10 a0 k M x2 x3 = some R0 → G l w L E M [(0, .ref a0), (2, .int x2), (3, .int x3)] 10 [] := by
  intro k
  induction k with
  | zero =>
    intro M x2 x3 hf
    exact absurd hf (by simp [l_X7_darkenedByOpening_10])
  | succ k ih =>
    intro M x2 x3 hf
    unfold l_X7_darkenedByOpening_10 at hf
    refine g_iload_n (pc := 10) cx dX7_darkenedByOpening_10 rfl 2 rfl ?_
    refine g_aload_n (pc := 11) cx dX7_darkenedByOpening_11 rfl 0 rfl ?_
    refine fg_X7_12 (pc := 12) cx dX7_darkenedByOpening_12 h0 ?_
    refine fg_X7_49 (pc := 15) cx dX7_darkenedByOpening_15 (LWires_net h0) ?_
    refine g_icmp_ge (pc := 18) (tgt := 38) cx dX7_darkenedByOpening_18 rfl hf (fun hf => ?_) (fun hf => ?_)
    · refine g_aload_n (pc := 21) cx dX7_darkenedByOpening_21 rfl 0 rfl ?_
      refine g_iload_n (pc := 22) cx dX7_darkenedByOpening_22 rfl 2 rfl ?_
      obtain ⟨q3, M1, hc2, hf⟩ := obn_some2 hf
      refine g_callVi (pc := 23) [.int x3] [] cx lk_X7_110 vw_X7 (LWires_o h0) (by decide) (c_X7_wouldDarken h0 hc2) dX7_darkenedByOpening_23 (Nat.le_of_ble_eq_true rfl) ?_
      refine g_if_eq (pc := 26) (tgt := 32) cx dX7_darkenedByOpening_26 rfl hf (fun hf => ?_) (fun hf => ?_)
      · exact w_X7_darkenedByOpening_32 cx en h0 (fun _ _ _ hf => ih hf) hf
      · refine g_iinc (pc := 29) cx [(2, .int (x2 + 1)), (0, .ref a0), (3, .int x3)] dX7_darkenedByOpening_29 1 rfl rfl (by decide) rfl ?_
        refine g_sub [1, 0, 2] [(0, .ref a0), (2, .int (x2 + 1)), (3, .int x3)] rfl ?_
        exact w_X7_darkenedByOpening_32 cx en h0 (fun _ _ _ hf => ih hf) hf
    · refine g_iload_n (pc := 38) cx dX7_darkenedByOpening_38 rfl 1 rfl ?_
      exact g_iret (pc := 39) cx en dX7_darkenedByOpening_39 rfl hf
set_option maxHeartbeats 4000000 in
set_option maxRecDepth 100000 in
theorem c_X7_darkenedByOpening {l : Launch} {w : Wp} {L : Ly} {a0 : Nat} {M : Mm} {x1 : Int32} {R0 : Int32 × Mm} (h0 : LWires w L (a0)) (hf : f_X7_darkenedByOpening a0 M x1 = some R0) : CT l w L yX7_darkenedByOpening cX7_darkenedByOpening 4 (some .int) 3 [.ref a0, .int x1] M R0 := by
  unfold f_X7_darkenedByOpening at hf
  refine CT_of pn_X7 (Nat.le_of_ble_eq_true rfl) (fun E cx en => ?_)
  have cx : Ok w L E RX7 cX7_darkenedByOpening 4 3 := cx
  show G l w L E M [(0, .ref a0), (1, .int x1)] 0 []
  refine g_aload_n (pc := 0) cx dX7_darkenedByOpening_0 rfl 0 rfl ?_
  refine g_iload_n (pc := 1) cx dX7_darkenedByOpening_1 rfl 1 rfl ?_
  refine g_iconst (pc := 2) (v := 0) cx dX7_darkenedByOpening_2 (by decide) ?_
  obtain ⟨q3, M1, hc2, hf⟩ := obn_some2 hf
  refine g_callVv (pc := 3) [.int x1, .int 0] [] cx lk_X7_107 vw_X7 (LWires_o h0) (by decide) (c_X7_supposeIsolator h0 hc2) dX7_darkenedByOpening_3 (Nat.le_of_ble_eq_true rfl) ?_
  refine g_iconst (pc := 6) (v := 0) cx dX7_darkenedByOpening_6 (by decide) ?_
  refine g_istore_n (pc := 7) cx [(2, .int 0), (0, .ref a0), (1, .int x1)] dX7_darkenedByOpening_7 rfl (by decide) rfl ?_
  refine g_iconst (pc := 8) (v := 0) cx dX7_darkenedByOpening_8 (by decide) ?_
  refine g_istore_n (pc := 9) cx [(3, .int 0), (2, .int 0), (0, .ref a0), (1, .int x1)] dX7_darkenedByOpening_9 rfl (by decide) rfl ?_
  refine g_sub [2, 1, 0] [(0, .ref a0), (2, .int 0), (3, .int 0)] rfl ?_
  exact w_X7_darkenedByOpening_10 cx en h0 FU hf
/-! X7_wouldLight -/
def b_X7_wouldLight_29 (a0 : Nat) (M : Mm) (s0 : Int32) : OR := zrk s0 (some (s0, M))
def b_X7_wouldLight_28 (a0 : Nat) (M : Mm) : OR := b_X7_wouldLight_29 a0 M 0
def f_X7_wouldLight (a0 : Nat) (M : Mm) (x1 : Int32) : OR := ckd x1 10 (if (zb (M ((a0 + 1) + 6) (ix x1))) = 0 then ckd x1 10 (if (zb (M ((a0 + 24) + 6) (ix x1))) = 0 then b_X7_wouldLight_28 a0 M else b_X7_wouldLight_29 a0 M 1) else b_X7_wouldLight_28 a0 M)
set_option maxHeartbeats 4000000 in
set_option maxRecDepth 100000 in
theorem w_X7_wouldLight_29 {l : Launch} {w : Wp} {L : Ly} {E : Cx} {a0 : Nat} {s0 : Int32} {R0 : Int32 × Mm} (cx : Ok w L E RX7 cX7_wouldLight 2 0) (en : En w L E (some .boolean) R0) (h0 : LWires w L (a0)) {M : Mm} (hf : b_X7_wouldLight_29 a0 M s0 = some R0) : G l w L E M [] 29 [.int s0] := by
  unfold b_X7_wouldLight_29 at hf
  exact g_zret (pc := 29) cx en dX7_wouldLight_29 hf
set_option maxHeartbeats 4000000 in
set_option maxRecDepth 100000 in
theorem w_X7_wouldLight_28 {l : Launch} {w : Wp} {L : Ly} {E : Cx} {a0 : Nat} {R0 : Int32 × Mm} (cx : Ok w L E RX7 cX7_wouldLight 2 0) (en : En w L E (some .boolean) R0) (h0 : LWires w L (a0)) {M : Mm} (hf : b_X7_wouldLight_28 a0 M = some R0) : G l w L E M [] 28 [] := by
  unfold b_X7_wouldLight_28 at hf
  refine g_iconst (pc := 28) (v := 0) cx dX7_wouldLight_28 (by decide) ?_
  exact w_X7_wouldLight_29 cx en h0 hf
set_option maxHeartbeats 4000000 in
set_option maxRecDepth 100000 in
theorem c_X7_wouldLight {l : Launch} {w : Wp} {L : Ly} {a0 : Nat} {M : Mm} {x1 : Int32} {R0 : Int32 × Mm} (h0 : LWires w L (a0)) (hf : f_X7_wouldLight a0 M x1 = some R0) : CT l w L yX7_wouldLight cX7_wouldLight 2 (some .boolean) 0 [.ref a0, .int x1] M R0 := by
  unfold f_X7_wouldLight at hf
  refine CT_of pn_X7 (Nat.le_of_ble_eq_true rfl) (fun E cx en => ?_)
  have cx : Ok w L E RX7 cX7_wouldLight 2 0 := cx
  show G l w L E M [(0, .ref a0), (1, .int x1)] 0 []
  refine g_aload_n (pc := 0) cx dX7_wouldLight_0 rfl 0 rfl ?_
  refine fg_X7_12 (pc := 1) cx dX7_wouldLight_1 h0 ?_
  refine fg_X7_100 (pc := 4) cx dX7_wouldLight_4 (LWires_net h0) ?_
  refine g_iload_n (pc := 7) cx dX7_wouldLight_7 rfl 1 rfl ?_
  refine g_zald (pc := 8) cx (LNet_live (LWires_net h0)) dX7_wouldLight_8 hf (fun hf => ?_)
  refine g_if_ne (pc := 9) (tgt := 28) cx dX7_wouldLight_9 rfl hf (fun hf => ?_) (fun hf => ?_)
  · refine g_aload_n (pc := 12) cx dX7_wouldLight_12 rfl 0 rfl ?_
    refine fg_X7_32 (pc := 13) cx dX7_wouldLight_13 h0 ?_
    refine fg_X7_100 (pc := 16) cx dX7_wouldLight_16 (LWires_supposed h0) ?_
    refine g_iload_n (pc := 19) cx dX7_wouldLight_19 rfl 1 rfl ?_
    refine g_zald (pc := 20) cx (LNet_live (LWires_supposed h0)) dX7_wouldLight_20 hf (fun hf => ?_)
    refine g_if_eq (pc := 21) (tgt := 28) cx dX7_wouldLight_21 rfl hf (fun hf => ?_) (fun hf => ?_)
    · refine g_sub [] [] rfl ?_
      exact w_X7_wouldLight_28 cx en h0 hf
    · refine g_iconst (pc := 24) (v := 1) cx dX7_wouldLight_24 (by decide) ?_
      refine g_goto (pc := 25) (tgt := 29) cx dX7_wouldLight_25 rfl ?_
      refine g_sub [] [] rfl ?_
      exact w_X7_wouldLight_29 cx en h0 hf
  · refine g_sub [] [] rfl ?_
    exact w_X7_wouldLight_28 cx en h0 hf
/-! X7_litByClosing -/
def b_X7_litByClosing_32 (a0 : Nat) (rc10 : Mm → Int32 → Int32 → OR) (M : Mm) (x2 : Int32) (x3 : Int32) : OR := rc10 M x2 (x3 + 1)
def l_X7_litByClosing_10 (a0 : Nat) : Nat → Mm → Int32 → Int32 → OR
  | 0, _, _, _ => none
  | k + 1, M, x2, x3 => if x3 < (M (a0 + 1) 0) then obn (f_X7_wouldLight a0 M x3) fun q3 M1 => (if q3 = 0 then b_X7_litByClosing_32 a0 (l_X7_litByClosing_10 a0 k) M1 x2 x3 else b_X7_litByClosing_32 a0 (l_X7_litByClosing_10 a0 k) M1 (x2 + 1) x3) else some (x2, M)
def f_X7_litByClosing (a0 : Nat) (M : Mm) (x1 : Int32) : OR := obn (f_X7_supposeIsolator a0 M x1 1) fun _ M1 => (l_X7_litByClosing_10 a0 FU M1 0 0)
set_option maxHeartbeats 4000000 in
set_option maxRecDepth 100000 in
theorem w_X7_litByClosing_32 {l : Launch} {w : Wp} {L : Ly} {E : Cx} {a0 : Nat} {rc10 : Mm → Int32 → Int32 → OR} {x2 : Int32} {x3 : Int32} {R0 : Int32 × Mm} (cx : Ok w L E RX7 cX7_litByClosing 4 3) (en : En w L E (some .int) R0) (h0 : LWires w L (a0)) (hrc10 : ∀ (M : Mm) (x2 : Int32) (x3 : Int32), rc10 M x2 x3 = some R0 → G l w L E M [(0, .ref a0), (2, .int x2), (3, .int x3)] 10 []) {M : Mm} (hf : b_X7_litByClosing_32 a0 rc10 M x2 x3 = some R0) : G l w L E M [(0, .ref a0), (2, .int x2), (3, .int x3)] 32 [] := by
  unfold b_X7_litByClosing_32 at hf
  refine g_iinc (pc := 32) cx [(3, .int (x3 + 1)), (0, .ref a0), (2, .int x2)] dX7_litByClosing_32 2 rfl rfl (by decide) rfl ?_
  refine g_goto (pc := 35) (tgt := 10) cx dX7_litByClosing_35 rfl ?_
  refine g_sub [1, 2, 0] [(0, .ref a0), (2, .int x2), (3, .int (x3 + 1))] rfl ?_
  exact hrc10 _ _ _ hf
set_option maxHeartbeats 4000000 in
set_option maxRecDepth 100000 in
theorem w_X7_litByClosing_10 {l : Launch} {w : Wp} {L : Ly} {E : Cx} {a0 : Nat} {R0 : Int32 × Mm} (cx : Ok w L E RX7 cX7_litByClosing 4 3) (en : En w L E (some .int) R0) (h0 : LWires w L (a0)) : ∀ (k : Nat) {M : Mm} {x2 : Int32} {x3 : Int32}, l_X7_litByClosing_10 a0 k M x2 x3 = some R0 → G l w L E M [(0, .ref a0), (2, .int x2), (3, .int x3)] 10 [] := by
  intro k
  induction k with
  | zero =>
    intro M x2 x3 hf
    exact absurd hf (by simp [l_X7_litByClosing_10])
  | succ k ih =>
    intro M x2 x3 hf
    unfold l_X7_litByClosing_10 at hf
    refine g_iload_n (pc := 10) cx dX7_litByClosing_10 rfl 2 rfl ?_
    refine g_aload_n (pc := 11) cx dX7_litByClosing_11 rfl 0 rfl ?_
    refine fg_X7_12 (pc := 12) cx dX7_litByClosing_12 h0 ?_
    refine fg_X7_49 (pc := 15) cx dX7_litByClosing_15 (LWires_net h0) ?_
    refine g_icmp_ge (pc := 18) (tgt := 38) cx dX7_litByClosing_18 rfl hf (fun hf => ?_) (fun hf => ?_)
    · refine g_aload_n (pc := 21) cx dX7_litByClosing_21 rfl 0 rfl ?_
      refine g_iload_n (pc := 22) cx dX7_litByClosing_22 rfl 2 rfl ?_
      obtain ⟨q3, M1, hc2, hf⟩ := obn_some2 hf
      refine g_callVi (pc := 23) [.int x3] [] cx lk_X7_113 vw_X7 (LWires_o h0) (by decide) (c_X7_wouldLight h0 hc2) dX7_litByClosing_23 (Nat.le_of_ble_eq_true rfl) ?_
      refine g_if_eq (pc := 26) (tgt := 32) cx dX7_litByClosing_26 rfl hf (fun hf => ?_) (fun hf => ?_)
      · exact w_X7_litByClosing_32 cx en h0 (fun _ _ _ hf => ih hf) hf
      · refine g_iinc (pc := 29) cx [(2, .int (x2 + 1)), (0, .ref a0), (3, .int x3)] dX7_litByClosing_29 1 rfl rfl (by decide) rfl ?_
        refine g_sub [1, 0, 2] [(0, .ref a0), (2, .int (x2 + 1)), (3, .int x3)] rfl ?_
        exact w_X7_litByClosing_32 cx en h0 (fun _ _ _ hf => ih hf) hf
    · refine g_iload_n (pc := 38) cx dX7_litByClosing_38 rfl 1 rfl ?_
      exact g_iret (pc := 39) cx en dX7_litByClosing_39 rfl hf
set_option maxHeartbeats 4000000 in
set_option maxRecDepth 100000 in
theorem c_X7_litByClosing {l : Launch} {w : Wp} {L : Ly} {a0 : Nat} {M : Mm} {x1 : Int32} {R0 : Int32 × Mm} (h0 : LWires w L (a0)) (hf : f_X7_litByClosing a0 M x1 = some R0) : CT l w L yX7_litByClosing cX7_litByClosing 4 (some .int) 3 [.ref a0, .int x1] M R0 := by
  unfold f_X7_litByClosing at hf
  refine CT_of pn_X7 (Nat.le_of_ble_eq_true rfl) (fun E cx en => ?_)
  have cx : Ok w L E RX7 cX7_litByClosing 4 3 := cx
  show G l w L E M [(0, .ref a0), (1, .int x1)] 0 []
  refine g_aload_n (pc := 0) cx dX7_litByClosing_0 rfl 0 rfl ?_
  refine g_iload_n (pc := 1) cx dX7_litByClosing_1 rfl 1 rfl ?_
  refine g_iconst (pc := 2) (v := 1) cx dX7_litByClosing_2 (by decide) ?_
  obtain ⟨q3, M1, hc2, hf⟩ := obn_some2 hf
  refine g_callVv (pc := 3) [.int x1, .int 1] [] cx lk_X7_107 vw_X7 (LWires_o h0) (by decide) (c_X7_supposeIsolator h0 hc2) dX7_litByClosing_3 (Nat.le_of_ble_eq_true rfl) ?_
  refine g_iconst (pc := 6) (v := 0) cx dX7_litByClosing_6 (by decide) ?_
  refine g_istore_n (pc := 7) cx [(2, .int 0), (0, .ref a0), (1, .int x1)] dX7_litByClosing_7 rfl (by decide) rfl ?_
  refine g_iconst (pc := 8) (v := 0) cx dX7_litByClosing_8 (by decide) ?_
  refine g_istore_n (pc := 9) cx [(3, .int 0), (2, .int 0), (0, .ref a0), (1, .int x1)] dX7_litByClosing_9 rfl (by decide) rfl ?_
  refine g_sub [2, 1, 0] [(0, .ref a0), (2, .int 0), (3, .int 0)] rfl ?_
  exact w_X7_litByClosing_10 cx en h0 FU hf
/-! X7_isClosedByLog -/
def f_X7_isClosedByLog (a0 : Nat) (M : Mm) (x1 : Int32) : OR := obn (f_X1_tell (a0 + 16) M) fun _ M1 => (ckd x1 16 (zrk (zb (M1 ((a0 + 16) + 7) (ix x1))) (some ((zb (M1 ((a0 + 16) + 7) (ix x1))), M1))))
set_option maxHeartbeats 4000000 in
set_option maxRecDepth 100000 in
theorem c_X7_isClosedByLog {l : Launch} {w : Wp} {L : Ly} {a0 : Nat} {M : Mm} {x1 : Int32} {R0 : Int32 × Mm} (h0 : LWires w L (a0)) (hf : f_X7_isClosedByLog a0 M x1 = some R0) : CT l w L yX7_isClosedByLog cX7_isClosedByLog 2 (some .boolean) 2 [.ref a0, .int x1] M R0 := by
  unfold f_X7_isClosedByLog at hf
  refine CT_of pn_X7 (Nat.le_of_ble_eq_true rfl) (fun E cx en => ?_)
  have cx : Ok w L E RX7 cX7_isClosedByLog 2 2 := cx
  show G l w L E M [(0, .ref a0), (1, .int x1)] 0 []
  refine g_aload_n (pc := 0) cx dX7_isClosedByLog_0 rfl 0 rfl ?_
  refine fg_X7_28 (pc := 1) cx dX7_isClosedByLog_1 h0 ?_
  obtain ⟨q3, M1, hc2, hf⟩ := obn_some2 hf
  refine g_callVv (pc := 4) [] [] cx lk_X7_116 vw_X1 (LLog_o (LWires_log h0)) (by decide) (c_X1_tell (LWires_log h0) hc2) dX7_isClosedByLog_4 (Nat.le_of_ble_eq_true rfl) ?_
  refine g_aload_n (pc := 7) cx dX7_isClosedByLog_7 rfl 0 rfl ?_
  refine fg_X7_28 (pc := 8) cx dX7_isClosedByLog_8 h0 ?_
  refine fg_X7_119 (pc := 11) cx dX7_isClosedByLog_11 (LWires_log h0) ?_
  refine g_iload_n (pc := 14) cx dX7_isClosedByLog_14 rfl 1 rfl ?_
  refine g_zald (pc := 15) cx (LLog_closedTold (LWires_log h0)) dX7_isClosedByLog_15 hf (fun hf => ?_)
  exact g_zret (pc := 16) cx en dX7_isClosedByLog_16 hf
/-! X7_goOutward -/
def b_X7_goOutward_77 (a0 : Nat) (rc2 : Mm → Int32 → OR) (M : Mm) (x1 : Int32) : OR := rc2 M (x1 + 1)
def b_X7_goOutward_63 (a0 : Nat) (rc2 : Mm → Int32 → OR) (M : Mm) (x1 : Int32) (x2 : Int32) (x3 : Int32) : OR := ckd x2 10 (bnd (mst M (a0 + 31) (ix x2) 1) fun M1 => ckd x3 10 (bnd (mst M1 (a0 + 31) (ix x3) 1) fun M2 => b_X7_goOutward_77 a0 rc2 M2 x1))
def l_X7_goOutward_2 (a0 : Nat) : Nat → Mm → Int32 → OR
  | 0, _, _ => none
  | k + 1, M, x1 => if x1 < (M (a0 + 1) 1) then ckd x1 16 (bnd (M ((a0 + 1) + 2) (ix x1)) fun v1 => ckd x1 16 (bnd (M ((a0 + 1) + 3) (ix x1)) fun v2 => ckd x1 16 (if (zb (M ((a0 + 16) + 7) (ix x1))) = 0 then b_X7_goOutward_77 a0 (l_X7_goOutward_2 a0 k) M x1 else ckd v1 10 (if (zb (M (a0 + 31) (ix v1))) = 0 then ckd v2 10 (if (zb (M (a0 + 31) (ix v2))) = 0 then b_X7_goOutward_77 a0 (l_X7_goOutward_2 a0 k) M x1 else b_X7_goOutward_63 a0 (l_X7_goOutward_2 a0 k) M x1 v1 v2) else b_X7_goOutward_63 a0 (l_X7_goOutward_2 a0 k) M x1 v1 v2)))) else some (0, M)
def f_X7_goOutward (a0 : Nat) (M : Mm) : OR := l_X7_goOutward_2 a0 FU M 0
set_option maxHeartbeats 4000000 in
set_option maxRecDepth 100000 in
theorem w_X7_goOutward_77 {l : Launch} {w : Wp} {L : Ly} {E : Cx} {a0 : Nat} {rc2 : Mm → Int32 → OR} {x1 : Int32} {R0 : Int32 × Mm} (cx : Ok w L E RX7 cX7_goOutward 4 0) (en : En w L E none R0) (h0 : LWires w L (a0)) (hrc2 : ∀ (M : Mm) (x1 : Int32), rc2 M x1 = some R0 → G l w L E M [(0, .ref a0), (1, .int x1)] 2 []) {M : Mm} (hf : b_X7_goOutward_77 a0 rc2 M x1 = some R0) : G l w L E M [(0, .ref a0), (1, .int x1)] 77 [] := by
  unfold b_X7_goOutward_77 at hf
  refine g_iinc (pc := 77) cx [(1, .int (x1 + 1)), (0, .ref a0)] dX7_goOutward_77 1 rfl rfl (by decide) rfl ?_
  refine g_goto (pc := 80) (tgt := 2) cx dX7_goOutward_80 rfl ?_
  refine g_sub [1, 0] [(0, .ref a0), (1, .int (x1 + 1))] rfl ?_
  exact hrc2 _ _ hf
set_option maxHeartbeats 4000000 in
set_option maxRecDepth 100000 in
theorem w_X7_goOutward_63 {l : Launch} {w : Wp} {L : Ly} {E : Cx} {a0 : Nat} {rc2 : Mm → Int32 → OR} {x1 : Int32} {x2 : Int32} {x3 : Int32} {R0 : Int32 × Mm} (cx : Ok w L E RX7 cX7_goOutward 4 0) (en : En w L E none R0) (h0 : LWires w L (a0)) (hrc2 : ∀ (M : Mm) (x1 : Int32), rc2 M x1 = some R0 → G l w L E M [(0, .ref a0), (1, .int x1)] 2 []) {M : Mm} (hf : b_X7_goOutward_63 a0 rc2 M x1 x2 x3 = some R0) : G l w L E M [(0, .ref a0), (1, .int x1), (2, .int x2), (3, .int x3)] 63 [] := by
  unfold b_X7_goOutward_63 at hf
  refine g_aload_n (pc := 63) cx dX7_goOutward_63 rfl 0 rfl ?_
  refine fg_X7_35 (pc := 64) cx dX7_goOutward_64 h0 ?_
  refine g_iload_n (pc := 67) cx dX7_goOutward_67 rfl 2 rfl ?_
  refine g_iconst (pc := 68) (v := 1) cx dX7_goOutward_68 (by decide) ?_
  refine g_zast (pc := 69) cx (LWires_reached h0) dX7_goOutward_69 hf (fun M1 hf => ?_)
  refine g_aload_n (pc := 70) cx dX7_goOutward_70 rfl 0 rfl ?_
  refine fg_X7_35 (pc := 71) cx dX7_goOutward_71 h0 ?_
  refine g_iload_n (pc := 74) cx dX7_goOutward_74 rfl 3 rfl ?_
  refine g_iconst (pc := 75) (v := 1) cx dX7_goOutward_75 (by decide) ?_
  refine g_zast (pc := 76) cx (LWires_reached h0) dX7_goOutward_76 hf (fun M2 hf => ?_)
  refine g_sub [0, 1] [(0, .ref a0), (1, .int x1)] rfl ?_
  exact w_X7_goOutward_77 cx en h0 hrc2 hf
set_option maxHeartbeats 4000000 in
set_option maxRecDepth 100000 in
theorem w_X7_goOutward_2 {l : Launch} {w : Wp} {L : Ly} {E : Cx} {a0 : Nat} {R0 : Int32 × Mm} (cx : Ok w L E RX7 cX7_goOutward 4 0) (en : En w L E none R0) (h0 : LWires w L (a0)) : ∀ (k : Nat) {M : Mm} {x1 : Int32}, l_X7_goOutward_2 a0 k M x1 = some R0 → G l w L E M [(0, .ref a0), (1, .int x1)] 2 [] := by
  intro k
  induction k with
  | zero =>
    intro M x1 hf
    exact absurd hf (by simp [l_X7_goOutward_2])
  | succ k ih =>
    intro M x1 hf
    unfold l_X7_goOutward_2 at hf
    refine g_iload_n (pc := 2) cx dX7_goOutward_2 rfl 1 rfl ?_
    refine g_aload_n (pc := 3) cx dX7_goOutward_3 rfl 0 rfl ?_
    refine fg_X7_12 (pc := 4) cx dX7_goOutward_4 h0 ?_
    refine fg_X7_57 (pc := 7) cx dX7_goOutward_7 (LWires_net h0) ?_
    refine g_icmp_ge (pc := 10) (tgt := 83) cx dX7_goOutward_10 rfl hf (fun hf => ?_) (fun hf => ?_)
    · refine g_aload_n (pc := 13) cx dX7_goOutward_13 rfl 0 rfl ?_
      refine fg_X7_12 (pc := 14) cx dX7_goOutward_14 h0 ?_
      refine fg_X7_81 (pc := 17) cx dX7_goOutward_17 (LWires_net h0) ?_
      refine g_iload_n (pc := 20) cx dX7_goOutward_20 rfl 1 rfl ?_
      refine g_iald (pc := 21) cx (LNet_one (LWires_net h0)) dX7_goOutward_21 hf (fun hf => ?_)
      refine g_nm hf (fun v1 hf => ?_)
      refine g_istore_n (pc := 22) cx [(2, .int v1), (0, .ref a0), (1, .int x1)] dX7_goOutward_22 rfl (by decide) rfl ?_
      refine g_aload_n (pc := 23) cx dX7_goOutward_23 rfl 1 rfl ?_
      refine fg_X7_12 (pc := 24) cx dX7_goOutward_24 h0 ?_
      refine fg_X7_84 (pc := 27) cx dX7_goOutward_27 (LWires_net h0) ?_
      refine g_iload_n (pc := 30) cx dX7_goOutward_30 rfl 2 rfl ?_
      refine g_iald (pc := 31) cx (LNet_other (LWires_net h0)) dX7_goOutward_31 hf (fun hf => ?_)
      refine g_nm hf (fun v2 hf => ?_)
      refine g_istore_n (pc := 32) cx [(3, .int v2), (2, .int v1), (0, .ref a0), (1, .int x1)] dX7_goOutward_32 rfl (by decide) rfl ?_
      refine g_aload_n (pc := 33) cx dX7_goOutward_33 rfl 2 rfl ?_
      refine fg_X7_28 (pc := 34) cx dX7_goOutward_34 h0 ?_
      refine fg_X7_119 (pc := 37) cx dX7_goOutward_37 (LWires_log h0) ?_
      refine g_iload_n (pc := 40) cx dX7_goOutward_40 rfl 3 rfl ?_
      refine g_zald (pc := 41) cx (LLog_closedTold (LWires_log h0)) dX7_goOutward_41 hf (fun hf => ?_)
      refine g_if_eq (pc := 42) (tgt := 77) cx dX7_goOutward_42 rfl hf (fun hf => ?_) (fun hf => ?_)
      · refine g_sub [2, 3] [(0, .ref a0), (1, .int x1)] rfl ?_
        exact w_X7_goOutward_77 cx en h0 (fun _ _ hf => ih hf) hf
      · refine g_aload_n (pc := 45) cx dX7_goOutward_45 rfl 2 rfl ?_
        refine fg_X7_35 (pc := 46) cx dX7_goOutward_46 h0 ?_
        refine g_iload_n (pc := 49) cx dX7_goOutward_49 rfl 1 rfl ?_
        refine g_zald (pc := 50) cx (LWires_reached h0) dX7_goOutward_50 hf (fun hf => ?_)
        refine g_if_ne (pc := 51) (tgt := 63) cx dX7_goOutward_51 rfl hf (fun hf => ?_) (fun hf => ?_)
        · refine g_aload_n (pc := 54) cx dX7_goOutward_54 rfl 2 rfl ?_
          refine fg_X7_35 (pc := 55) cx dX7_goOutward_55 h0 ?_
          refine g_iload_n (pc := 58) cx dX7_goOutward_58 rfl 0 rfl ?_
          refine g_zald (pc := 59) cx (LWires_reached h0) dX7_goOutward_59 hf (fun hf => ?_)
          refine g_if_eq (pc := 60) (tgt := 77) cx dX7_goOutward_60 rfl hf (fun hf => ?_) (fun hf => ?_)
          · refine g_sub [2, 3] [(0, .ref a0), (1, .int x1)] rfl ?_
            exact w_X7_goOutward_77 cx en h0 (fun _ _ hf => ih hf) hf
          · refine g_sub [2, 3, 1, 0] [(0, .ref a0), (1, .int x1), (2, .int v1), (3, .int v2)] rfl ?_
            exact w_X7_goOutward_63 cx en h0 (fun _ _ hf => ih hf) hf
        · refine g_sub [2, 3, 1, 0] [(0, .ref a0), (1, .int x1), (2, .int v1), (3, .int v2)] rfl ?_
          exact w_X7_goOutward_63 cx en h0 (fun _ _ hf => ih hf) hf
    · exact g_vret (pc := 83) cx en dX7_goOutward_83 hf
set_option maxHeartbeats 4000000 in
set_option maxRecDepth 100000 in
theorem c_X7_goOutward {l : Launch} {w : Wp} {L : Ly} {a0 : Nat} {M : Mm} {R0 : Int32 × Mm} (h0 : LWires w L (a0)) (hf : f_X7_goOutward a0 M = some R0) : CT l w L yX7_goOutward cX7_goOutward 4 none 0 [.ref a0] M R0 := by
  unfold f_X7_goOutward at hf
  refine CT_of pn_X7 (Nat.le_of_ble_eq_true rfl) (fun E cx en => ?_)
  have cx : Ok w L E RX7 cX7_goOutward 4 0 := cx
  show G l w L E M [(0, .ref a0)] 0 []
  refine g_iconst (pc := 0) (v := 0) cx dX7_goOutward_0 (by decide) ?_
  refine g_istore_n (pc := 1) cx [(1, .int 0), (0, .ref a0)] dX7_goOutward_1 rfl (by decide) rfl ?_
  refine g_sub [1, 0] [(0, .ref a0), (1, .int 0)] rfl ?_
  exact w_X7_goOutward_2 cx en h0 FU hf
/-! X7_isLiveByLog -/
def b_X7_isLiveByLog_43 (a0 : Nat) (rc9 : Mm → Int32 → OR) (M : Mm) (x1 : Int32) (x2 : Int32) (s1 : Int32) (s2 : Int32) : OR := ckd s1 10 (bnd (mst M (a0 + 31) (ix s1) s2) fun M1 => rc9 M1 (x2 + 1))
def l_X7_isLiveByLog_52 (a0 : Nat) (x1 : Int32) : Nat → Mm → Int32 → OR
  | 0, _, _ => none
  | k + 1, M, x2 => if x2 < (M (a0 + 1) 0) then obn (f_X7_goOutward a0 M) fun _ M1 => (l_X7_isLiveByLog_52 a0 x1 k M1 (x2 + 1)) else ckd x1 10 (zrk (zb (M (a0 + 31) (ix x1))) (some ((zb (M (a0 + 31) (ix x1))), M)))
def l_X7_isLiveByLog_9 (a0 : Nat) (x1 : Int32) : Nat → Mm → Int32 → OR
  | 0, _, _ => none
  | k + 1, M, x2 => if x2 < (M (a0 + 1) 0) then ckd x2 10 (if (M ((a0 + 16) + 6) (ix x2)) = 2 then b_X7_isLiveByLog_43 a0 (l_X7_isLiveByLog_9 a0 x1 k) M x1 x2 x2 1 else b_X7_isLiveByLog_43 a0 (l_X7_isLiveByLog_9 a0 x1 k) M x1 x2 x2 0) else l_X7_isLiveByLog_52 a0 x1 FU M 1
def f_X7_isLiveByLog (a0 : Nat) (M : Mm) (x1 : Int32) : OR := obn (f_X1_tell (a0 + 16) M) fun _ M1 => (l_X7_isLiveByLog_9 a0 x1 FU M1 0)
set_option maxHeartbeats 4000000 in
set_option maxRecDepth 100000 in
theorem w_X7_isLiveByLog_43 {l : Launch} {w : Wp} {L : Ly} {E : Cx} {a0 : Nat} {rc9 : Mm → Int32 → OR} {x1 : Int32} {x2 : Int32} {s1 : Int32} {s2 : Int32} {R0 : Int32 × Mm} (cx : Ok w L E RX7 cX7_isLiveByLog 3 2) (en : En w L E (some .boolean) R0) (h0 : LWires w L (a0)) (hrc9 : ∀ (M : Mm) (x2 : Int32), rc9 M x2 = some R0 → G l w L E M [(0, .ref a0), (1, .int x1), (2, .int x2)] 9 []) {M : Mm} (hf : b_X7_isLiveByLog_43 a0 rc9 M x1 x2 s1 s2 = some R0) : G l w L E M [(0, .ref a0), (1, .int x1), (2, .int x2)] 43 [.int s2, .int s1, .ref (a0 + 31)] := by
  unfold b_X7_isLiveByLog_43 at hf
  refine g_zast (pc := 43) cx (LWires_reached h0) dX7_isLiveByLog_43 hf (fun M1 hf => ?_)
  refine g_iinc (pc := 44) cx [(2, .int (x2 + 1)), (0, .ref a0), (1, .int x1)] dX7_isLiveByLog_44 2 rfl rfl (by decide) rfl ?_
  refine g_goto (pc := 47) (tgt := 9) cx dX7_isLiveByLog_47 rfl ?_
  refine g_sub [1, 2, 0] [(0, .ref a0), (1, .int x1), (2, .int (x2 + 1))] rfl ?_
  exact hrc9 _ _ hf
set_option maxHeartbeats 4000000 in
set_option maxRecDepth 100000 in
theorem w_X7_isLiveByLog_52 {l : Launch} {w : Wp} {L : Ly} {E : Cx} {a0 : Nat} {x1 : Int32} {R0 : Int32 × Mm} (cx : Ok w L E RX7 cX7_isLiveByLog 3 2) (en : En w L E (some .boolean) R0) (h0 : LWires w L (a0)) : ∀ (k : Nat) {M : Mm} {x2 : Int32}, l_X7_isLiveByLog_52 a0 x1 k M x2 = some R0 → G l w L E M [(0, .ref a0), (1, .int x1), (2, .int x2)] 52 [] := by
  intro k
  induction k with
  | zero =>
    intro M x2 hf
    exact absurd hf (by simp [l_X7_isLiveByLog_52])
  | succ k ih =>
    intro M x2 hf
    unfold l_X7_isLiveByLog_52 at hf
    refine g_iload_n (pc := 52) cx dX7_isLiveByLog_52 rfl 2 rfl ?_
    refine g_aload_n (pc := 53) cx dX7_isLiveByLog_53 rfl 0 rfl ?_
    refine fg_X7_12 (pc := 54) cx dX7_isLiveByLog_54 h0 ?_
    refine fg_X7_49 (pc := 57) cx dX7_isLiveByLog_57 (LWires_net h0) ?_
    refine g_icmp_ge (pc := 60) (tgt := 73) cx dX7_isLiveByLog_60 rfl hf (fun hf => ?_) (fun hf => ?_)
    · refine g_aload_n (pc := 63) cx dX7_isLiveByLog_63 rfl 0 rfl ?_
      obtain ⟨q3, M1, hc2, hf⟩ := obn_some2 hf
      refine g_callVv (pc := 64) [] [] cx lk_X7_125 vw_X7 (LWires_o h0) (by decide) (c_X7_goOutward h0 hc2) dX7_isLiveByLog_64 (Nat.le_of_ble_eq_true rfl) ?_
      refine g_iinc (pc := 67) cx [(2, .int (x2 + 1)), (0, .ref a0), (1, .int x1)] dX7_isLiveByLog_67 2 rfl rfl (by decide) rfl ?_
      refine g_goto (pc := 70) (tgt := 52) cx dX7_isLiveByLog_70 rfl ?_
      refine g_sub [1, 2, 0] [(0, .ref a0), (1, .int x1), (2, .int (x2 + 1))] rfl ?_
      exact ih hf
    · refine g_aload_n (pc := 73) cx dX7_isLiveByLog_73 rfl 0 rfl ?_
      refine fg_X7_35 (pc := 74) cx dX7_isLiveByLog_74 h0 ?_
      refine g_iload_n (pc := 77) cx dX7_isLiveByLog_77 rfl 1 rfl ?_
      refine g_zald (pc := 78) cx (LWires_reached h0) dX7_isLiveByLog_78 hf (fun hf => ?_)
      exact g_zret (pc := 79) cx en dX7_isLiveByLog_79 hf
set_option maxHeartbeats 4000000 in
set_option maxRecDepth 100000 in
theorem w_X7_isLiveByLog_9 {l : Launch} {w : Wp} {L : Ly} {E : Cx} {a0 : Nat} {x1 : Int32} {R0 : Int32 × Mm} (cx : Ok w L E RX7 cX7_isLiveByLog 3 2) (en : En w L E (some .boolean) R0) (h0 : LWires w L (a0)) : ∀ (k : Nat) {M : Mm} {x2 : Int32}, l_X7_isLiveByLog_9 a0 x1 k M x2 = some R0 → G l w L E M [(0, .ref a0), (1, .int x1), (2, .int x2)] 9 [] := by
  intro k
  induction k with
  | zero =>
    intro M x2 hf
    exact absurd hf (by simp [l_X7_isLiveByLog_9])
  | succ k ih =>
    intro M x2 hf
    unfold l_X7_isLiveByLog_9 at hf
    refine g_iload_n (pc := 9) cx dX7_isLiveByLog_9 rfl 2 rfl ?_
    refine g_aload_n (pc := 10) cx dX7_isLiveByLog_10 rfl 0 rfl ?_
    refine fg_X7_12 (pc := 11) cx dX7_isLiveByLog_11 h0 ?_
    refine fg_X7_49 (pc := 14) cx dX7_isLiveByLog_14 (LWires_net h0) ?_
    refine g_icmp_ge (pc := 17) (tgt := 50) cx dX7_isLiveByLog_17 rfl hf (fun hf => ?_) (fun hf => ?_)
    · refine g_aload_n (pc := 20) cx dX7_isLiveByLog_20 rfl 0 rfl ?_
      refine fg_X7_35 (pc := 21) cx dX7_isLiveByLog_21 h0 ?_
      refine g_iload_n (pc := 24) cx dX7_isLiveByLog_24 rfl 2 rfl ?_
      refine g_aload_n (pc := 25) cx dX7_isLiveByLog_25 rfl 0 rfl ?_
      refine fg_X7_28 (pc := 26) cx dX7_isLiveByLog_26 h0 ?_
      refine fg_X7_122 (pc := 29) cx dX7_isLiveByLog_29 (LWires_log h0) ?_
      refine g_iload_n (pc := 32) cx dX7_isLiveByLog_32 rfl 2 rfl ?_
      refine g_iald (pc := 33) cx (LLog_feederTold (LWires_log h0)) dX7_isLiveByLog_33 hf (fun hf => ?_)
      refine g_iconst (pc := 34) (v := 2) cx dX7_isLiveByLog_34 (by decide) ?_
      refine g_icmp_ne (pc := 35) (tgt := 42) cx dX7_isLiveByLog_35 rfl hf (fun hf => ?_) (fun hf => ?_)
      · refine g_iconst (pc := 38) (v := 1) cx dX7_isLiveByLog_38 (by decide) ?_
        refine g_goto (pc := 39) (tgt := 43) cx dX7_isLiveByLog_39 rfl ?_
        exact w_X7_isLiveByLog_43 cx en h0 (fun _ _ hf => ih hf) hf
      · refine g_iconst (pc := 42) (v := 0) cx dX7_isLiveByLog_42 (by decide) ?_
        exact w_X7_isLiveByLog_43 cx en h0 (fun _ _ hf => ih hf) hf
    · refine g_iconst (pc := 50) (v := 1) cx dX7_isLiveByLog_50 (by decide) ?_
      refine g_istore_n (pc := 51) cx [(2, .int 1), (0, .ref a0), (1, .int x1)] dX7_isLiveByLog_51 rfl (by decide) rfl ?_
      refine g_sub [1, 2, 0] [(0, .ref a0), (1, .int x1), (2, .int 1)] rfl ?_
      exact w_X7_isLiveByLog_52 cx en h0 FU hf
set_option maxHeartbeats 4000000 in
set_option maxRecDepth 100000 in
theorem c_X7_isLiveByLog {l : Launch} {w : Wp} {L : Ly} {a0 : Nat} {M : Mm} {x1 : Int32} {R0 : Int32 × Mm} (h0 : LWires w L (a0)) (hf : f_X7_isLiveByLog a0 M x1 = some R0) : CT l w L yX7_isLiveByLog cX7_isLiveByLog 3 (some .boolean) 2 [.ref a0, .int x1] M R0 := by
  unfold f_X7_isLiveByLog at hf
  refine CT_of pn_X7 (Nat.le_of_ble_eq_true rfl) (fun E cx en => ?_)
  have cx : Ok w L E RX7 cX7_isLiveByLog 3 2 := cx
  show G l w L E M [(0, .ref a0), (1, .int x1)] 0 []
  refine g_aload_n (pc := 0) cx dX7_isLiveByLog_0 rfl 0 rfl ?_
  refine fg_X7_28 (pc := 1) cx dX7_isLiveByLog_1 h0 ?_
  obtain ⟨q3, M1, hc2, hf⟩ := obn_some2 hf
  refine g_callVv (pc := 4) [] [] cx lk_X7_116 vw_X1 (LLog_o (LWires_log h0)) (by decide) (c_X1_tell (LWires_log h0) hc2) dX7_isLiveByLog_4 (Nat.le_of_ble_eq_true rfl) ?_
  refine g_iconst (pc := 7) (v := 0) cx dX7_isLiveByLog_7 (by decide) ?_
  refine g_istore_n (pc := 8) cx [(2, .int 0), (0, .ref a0), (1, .int x1)] dX7_isLiveByLog_8 rfl (by decide) rfl ?_
  refine g_sub [1, 2, 0] [(0, .ref a0), (1, .int x1), (2, .int 0)] rfl ?_
  exact w_X7_isLiveByLog_9 cx en h0 FU hf
/-! X7_againstBridging -/
def b_X7_againstBridging_40 (a0 : Nat) (M : Mm) (s0 : Int32) : OR := some (s0, M)
def f_X7_againstBridging (a0 : Nat) (M : Mm) (x1 : Int32) : OR := ckd x1 10 (if (zb (M ((a0 + 8) + 2) (ix x1))) = 0 then obn (f_X5_freeBuses (a0 + 8) M) fun q3 M1 => (ckd x1 10 (if q3 < (M1 ((a0 + 8) + 1) (ix x1)) then b_X7_againstBridging_40 a0 M1 12 else b_X7_againstBridging_40 a0 M1 0)) else some (11, M))
set_option maxHeartbeats 4000000 in
set_option maxRecDepth 100000 in
theorem w_X7_againstBridging_40 {l : Launch} {w : Wp} {L : Ly} {E : Cx} {a0 : Nat} {s0 : Int32} {R0 : Int32 × Mm} (cx : Ok w L E RX7 cX7_againstBridging 2 2) (en : En w L E (some .int) R0) (h0 : LWires w L (a0)) {M : Mm} (hf : b_X7_againstBridging_40 a0 M s0 = some R0) : G l w L E M [] 40 [.int s0] := by
  unfold b_X7_againstBridging_40 at hf
  exact g_iret (pc := 40) cx en dX7_againstBridging_40 rfl hf
set_option maxHeartbeats 4000000 in
set_option maxRecDepth 100000 in
theorem c_X7_againstBridging {l : Launch} {w : Wp} {L : Ly} {a0 : Nat} {M : Mm} {x1 : Int32} {R0 : Int32 × Mm} (h0 : LWires w L (a0)) (hf : f_X7_againstBridging a0 M x1 = some R0) : CT l w L yX7_againstBridging cX7_againstBridging 2 (some .int) 2 [.ref a0, .int x1] M R0 := by
  unfold f_X7_againstBridging at hf
  refine CT_of pn_X7 (Nat.le_of_ble_eq_true rfl) (fun E cx en => ?_)
  have cx : Ok w L E RX7 cX7_againstBridging 2 2 := cx
  show G l w L E M [(0, .ref a0), (1, .int x1)] 0 []
  refine g_aload_n (pc := 0) cx dX7_againstBridging_0 rfl 0 rfl ?_
  refine fg_X7_21 (pc := 1) cx dX7_againstBridging_1 h0 ?_
  refine fg_X7_153 (pc := 4) cx dX7_againstBridging_4 (LWires_service h0) ?_
  refine g_iload_n (pc := 7) cx dX7_againstBridging_7 rfl 1 rfl ?_
  refine g_zald (pc := 8) cx (LService_bridged (LWires_service h0)) dX7_againstBridging_8 hf (fun hf => ?_)
  refine g_if_eq (pc := 9) (tgt := 15) cx dX7_againstBridging_9 rfl hf (fun hf => ?_) (fun hf => ?_)
  · refine g_aload_n (pc := 15) cx dX7_againstBridging_15 rfl 0 rfl ?_
    refine fg_X7_21 (pc := 16) cx dX7_againstBridging_16 h0 ?_
    obtain ⟨q3, M1, hc2, hf⟩ := obn_some2 hf
    refine g_callVi (pc := 19) [] [] cx lk_X7_156 vw_X5 (LService_o (LWires_service h0)) (by decide) (c_X5_freeBuses (LWires_service h0) hc2) dX7_againstBridging_19 (Nat.le_of_ble_eq_true rfl) ?_
    refine g_aload_n (pc := 22) cx dX7_againstBridging_22 rfl 0 rfl ?_
    refine fg_X7_21 (pc := 23) cx dX7_againstBridging_23 h0 ?_
    refine fg_X7_67 (pc := 26) cx dX7_againstBridging_26 (LWires_service h0) ?_
    refine g_iload_n (pc := 29) cx dX7_againstBridging_29 rfl 1 rfl ?_
    refine g_iald (pc := 30) cx (LService_needed (LWires_service h0)) dX7_againstBridging_30 hf (fun hf => ?_)
    refine g_icmp_ge (pc := 31) (tgt := 39) cx dX7_againstBridging_31 rfl hf (fun hf => ?_) (fun hf => ?_)
    · refine g_bipush (pc := 34) (v := 12) cx dX7_againstBridging_34 (by decide) ?_
      refine g_goto (pc := 36) (tgt := 40) cx dX7_againstBridging_36 rfl ?_
      refine g_sub [] [] rfl ?_
      exact w_X7_againstBridging_40 cx en h0 hf
    · refine g_iconst (pc := 39) (v := 0) cx dX7_againstBridging_39 (by decide) ?_
      refine g_sub [] [] rfl ?_
      exact w_X7_againstBridging_40 cx en h0 hf
  · refine g_bipush (pc := 12) (v := 11) cx dX7_againstBridging_12 (by decide) ?_
    exact g_iret (pc := 14) cx en dX7_againstBridging_14 rfl hf
/-! X7_wouldLightEarth -/
def b_X7_wouldLightEarth_35 (a0 : Nat) (rc2 : Mm → Int32 → OR) (M : Mm) (x1 : Int32) : OR := rc2 M (x1 + 1)
def l_X7_wouldLightEarth_2 (a0 : Nat) : Nat → Mm → Int32 → OR
  | 0, _, _ => none
  | k + 1, M, x1 => if x1 < (M (a0 + 1) 0) then ckd x1 10 (if (zb (M ((a0 + 8) + 3) (ix x1))) = 0 then b_X7_wouldLightEarth_35 a0 (l_X7_wouldLightEarth_2 a0 k) M x1 else obn (f_X7_wouldLight a0 M x1) fun q3 M1 => (if q3 = 0 then b_X7_wouldLightEarth_35 a0 (l_X7_wouldLightEarth_2 a0 k) M1 x1 else zrk 1 (some (1, M1)))) else zrk 0 (some (0, M))
def f_X7_wouldLightEarth (a0 : Nat) (M : Mm) : OR := l_X7_wouldLightEarth_2 a0 FU M 0
set_option maxHeartbeats 4000000 in
set_option maxRecDepth 100000 in
theorem w_X7_wouldLightEarth_35 {l : Launch} {w : Wp} {L : Ly} {E : Cx} {a0 : Nat} {rc2 : Mm → Int32 → OR} {x1 : Int32} {R0 : Int32 × Mm} (cx : Ok w L E RX7 cX7_wouldLightEarth 2 1) (en : En w L E (some .boolean) R0) (h0 : LWires w L (a0)) (hrc2 : ∀ (M : Mm) (x1 : Int32), rc2 M x1 = some R0 → G l w L E M [(0, .ref a0), (1, .int x1)] 2 []) {M : Mm} (hf : b_X7_wouldLightEarth_35 a0 rc2 M x1 = some R0) : G l w L E M [(0, .ref a0), (1, .int x1)] 35 [] := by
  unfold b_X7_wouldLightEarth_35 at hf
  refine g_iinc (pc := 35) cx [(1, .int (x1 + 1)), (0, .ref a0)] dX7_wouldLightEarth_35 1 rfl rfl (by decide) rfl ?_
  refine g_goto (pc := 38) (tgt := 2) cx dX7_wouldLightEarth_38 rfl ?_
  refine g_sub [1, 0] [(0, .ref a0), (1, .int (x1 + 1))] rfl ?_
  exact hrc2 _ _ hf
set_option maxHeartbeats 4000000 in
set_option maxRecDepth 100000 in
theorem w_X7_wouldLightEarth_2 {l : Launch} {w : Wp} {L : Ly} {E : Cx} {a0 : Nat} {R0 : Int32 × Mm} (cx : Ok w L E RX7 cX7_wouldLightEarth 2 1) (en : En w L E (some .boolean) R0) (h0 : LWires w L (a0)) : ∀ (k : Nat) {M : Mm} {x1 : Int32}, l_X7_wouldLightEarth_2 a0 k M x1 = some R0 → G l w L E M [(0, .ref a0), (1, .int x1)] 2 [] := by
  intro k
  induction k with
  | zero =>
    intro M x1 hf
    exact absurd hf (by simp [l_X7_wouldLightEarth_2])
  | succ k ih =>
    intro M x1 hf
    unfold l_X7_wouldLightEarth_2 at hf
    refine g_iload_n (pc := 2) cx dX7_wouldLightEarth_2 rfl 1 rfl ?_
    refine g_aload_n (pc := 3) cx dX7_wouldLightEarth_3 rfl 0 rfl ?_
    refine fg_X7_12 (pc := 4) cx dX7_wouldLightEarth_4 h0 ?_
    refine fg_X7_49 (pc := 7) cx dX7_wouldLightEarth_7 (LWires_net h0) ?_
    refine g_icmp_ge (pc := 10) (tgt := 41) cx dX7_wouldLightEarth_10 rfl hf (fun hf => ?_) (fun hf => ?_)
    · refine g_aload_n (pc := 13) cx dX7_wouldLightEarth_13 rfl 0 rfl ?_
      refine fg_X7_21 (pc := 14) cx dX7_wouldLightEarth_14 h0 ?_
      refine fg_X7_94 (pc := 17) cx dX7_wouldLightEarth_17 (LWires_service h0) ?_
      refine g_iload_n (pc := 20) cx dX7_wouldLightEarth_20 rfl 1 rfl ?_
      refine g_zald (pc := 21) cx (LService_earthed (LWires_service h0)) dX7_wouldLightEarth_21 hf (fun hf => ?_)
      refine g_if_eq (pc := 22) (tgt := 35) cx dX7_wouldLightEarth_22 rfl hf (fun hf => ?_) (fun hf => ?_)
      · exact w_X7_wouldLightEarth_35 cx en h0 (fun _ _ hf => ih hf) hf
      · refine g_aload_n (pc := 25) cx dX7_wouldLightEarth_25 rfl 0 rfl ?_
        refine g_iload_n (pc := 26) cx dX7_wouldLightEarth_26 rfl 1 rfl ?_
        obtain ⟨q3, M1, hc2, hf⟩ := obn_some2 hf
        refine g_callVi (pc := 27) [.int x1] [] cx lk_X7_113 vw_X7 (LWires_o h0) (by decide) (c_X7_wouldLight h0 hc2) dX7_wouldLightEarth_27 (Nat.le_of_ble_eq_true rfl) ?_
        refine g_if_eq (pc := 30) (tgt := 35) cx dX7_wouldLightEarth_30 rfl hf (fun hf => ?_) (fun hf => ?_)
        · exact w_X7_wouldLightEarth_35 cx en h0 (fun _ _ hf => ih hf) hf
        · refine g_iconst (pc := 33) (v := 1) cx dX7_wouldLightEarth_33 (by decide) ?_
          exact g_zret (pc := 34) cx en dX7_wouldLightEarth_34 hf
    · refine g_iconst (pc := 41) (v := 0) cx dX7_wouldLightEarth_41 (by decide) ?_
      exact g_zret (pc := 42) cx en dX7_wouldLightEarth_42 hf
set_option maxHeartbeats 4000000 in
set_option maxRecDepth 100000 in
theorem c_X7_wouldLightEarth {l : Launch} {w : Wp} {L : Ly} {a0 : Nat} {M : Mm} {R0 : Int32 × Mm} (h0 : LWires w L (a0)) (hf : f_X7_wouldLightEarth a0 M = some R0) : CT l w L yX7_wouldLightEarth cX7_wouldLightEarth 2 (some .boolean) 1 [.ref a0] M R0 := by
  unfold f_X7_wouldLightEarth at hf
  refine CT_of pn_X7 (Nat.le_of_ble_eq_true rfl) (fun E cx en => ?_)
  have cx : Ok w L E RX7 cX7_wouldLightEarth 2 1 := cx
  show G l w L E M [(0, .ref a0)] 0 []
  refine g_iconst (pc := 0) (v := 0) cx dX7_wouldLightEarth_0 (by decide) ?_
  refine g_istore_n (pc := 1) cx [(1, .int 0), (0, .ref a0)] dX7_wouldLightEarth_1 rfl (by decide) rfl ?_
  refine g_sub [1, 0] [(0, .ref a0), (1, .int 0)] rfl ?_
  exact w_X7_wouldLightEarth_2 cx en h0 FU hf
/-! X7_wouldLightTools -/
def b_X7_wouldLightTools_35 (a0 : Nat) (rc2 : Mm → Int32 → OR) (M : Mm) (x1 : Int32) : OR := rc2 M (x1 + 1)
def l_X7_wouldLightTools_2 (a0 : Nat) : Nat → Mm → Int32 → OR
  | 0, _, _ => none
  | k + 1, M, x1 => if x1 < (M (a0 + 1) 0) then ckd x1 10 (if 0 < (M ((a0 + 8) + 7) (ix x1)) then obn (f_X7_wouldLight a0 M x1) fun q3 M1 => (if q3 = 0 then b_X7_wouldLightTools_35 a0 (l_X7_wouldLightTools_2 a0 k) M1 x1 else zrk 1 (some (1, M1))) else b_X7_wouldLightTools_35 a0 (l_X7_wouldLightTools_2 a0 k) M x1) else zrk 0 (some (0, M))
def f_X7_wouldLightTools (a0 : Nat) (M : Mm) : OR := l_X7_wouldLightTools_2 a0 FU M 0
set_option maxHeartbeats 4000000 in
set_option maxRecDepth 100000 in
theorem w_X7_wouldLightTools_35 {l : Launch} {w : Wp} {L : Ly} {E : Cx} {a0 : Nat} {rc2 : Mm → Int32 → OR} {x1 : Int32} {R0 : Int32 × Mm} (cx : Ok w L E RX7 cX7_wouldLightTools 2 1) (en : En w L E (some .boolean) R0) (h0 : LWires w L (a0)) (hrc2 : ∀ (M : Mm) (x1 : Int32), rc2 M x1 = some R0 → G l w L E M [(0, .ref a0), (1, .int x1)] 2 []) {M : Mm} (hf : b_X7_wouldLightTools_35 a0 rc2 M x1 = some R0) : G l w L E M [(0, .ref a0), (1, .int x1)] 35 [] := by
  unfold b_X7_wouldLightTools_35 at hf
  refine g_iinc (pc := 35) cx [(1, .int (x1 + 1)), (0, .ref a0)] dX7_wouldLightTools_35 1 rfl rfl (by decide) rfl ?_
  refine g_goto (pc := 38) (tgt := 2) cx dX7_wouldLightTools_38 rfl ?_
  refine g_sub [1, 0] [(0, .ref a0), (1, .int (x1 + 1))] rfl ?_
  exact hrc2 _ _ hf
set_option maxHeartbeats 4000000 in
set_option maxRecDepth 100000 in
theorem w_X7_wouldLightTools_2 {l : Launch} {w : Wp} {L : Ly} {E : Cx} {a0 : Nat} {R0 : Int32 × Mm} (cx : Ok w L E RX7 cX7_wouldLightTools 2 1) (en : En w L E (some .boolean) R0) (h0 : LWires w L (a0)) : ∀ (k : Nat) {M : Mm} {x1 : Int32}, l_X7_wouldLightTools_2 a0 k M x1 = some R0 → G l w L E M [(0, .ref a0), (1, .int x1)] 2 [] := by
  intro k
  induction k with
  | zero =>
    intro M x1 hf
    exact absurd hf (by simp [l_X7_wouldLightTools_2])
  | succ k ih =>
    intro M x1 hf
    unfold l_X7_wouldLightTools_2 at hf
    refine g_iload_n (pc := 2) cx dX7_wouldLightTools_2 rfl 1 rfl ?_
    refine g_aload_n (pc := 3) cx dX7_wouldLightTools_3 rfl 0 rfl ?_
    refine fg_X7_12 (pc := 4) cx dX7_wouldLightTools_4 h0 ?_
    refine fg_X7_49 (pc := 7) cx dX7_wouldLightTools_7 (LWires_net h0) ?_
    refine g_icmp_ge (pc := 10) (tgt := 41) cx dX7_wouldLightTools_10 rfl hf (fun hf => ?_) (fun hf => ?_)
    · refine g_aload_n (pc := 13) cx dX7_wouldLightTools_13 rfl 0 rfl ?_
      refine fg_X7_21 (pc := 14) cx dX7_wouldLightTools_14 h0 ?_
      refine fg_X7_97 (pc := 17) cx dX7_wouldLightTools_17 (LWires_service h0) ?_
      refine g_iload_n (pc := 20) cx dX7_wouldLightTools_20 rfl 1 rfl ?_
      refine g_iald (pc := 21) cx (LService_tools (LWires_service h0)) dX7_wouldLightTools_21 hf (fun hf => ?_)
      refine g_if_le (pc := 22) (tgt := 35) cx dX7_wouldLightTools_22 rfl hf (fun hf => ?_) (fun hf => ?_)
      · refine g_aload_n (pc := 25) cx dX7_wouldLightTools_25 rfl 0 rfl ?_
        refine g_iload_n (pc := 26) cx dX7_wouldLightTools_26 rfl 1 rfl ?_
        obtain ⟨q3, M1, hc2, hf⟩ := obn_some2 hf
        refine g_callVi (pc := 27) [.int x1] [] cx lk_X7_113 vw_X7 (LWires_o h0) (by decide) (c_X7_wouldLight h0 hc2) dX7_wouldLightTools_27 (Nat.le_of_ble_eq_true rfl) ?_
        refine g_if_eq (pc := 30) (tgt := 35) cx dX7_wouldLightTools_30 rfl hf (fun hf => ?_) (fun hf => ?_)
        · exact w_X7_wouldLightTools_35 cx en h0 (fun _ _ hf => ih hf) hf
        · refine g_iconst (pc := 33) (v := 1) cx dX7_wouldLightTools_33 (by decide) ?_
          exact g_zret (pc := 34) cx en dX7_wouldLightTools_34 hf
      · exact w_X7_wouldLightTools_35 cx en h0 (fun _ _ hf => ih hf) hf
    · refine g_iconst (pc := 41) (v := 0) cx dX7_wouldLightTools_41 (by decide) ?_
      exact g_zret (pc := 42) cx en dX7_wouldLightTools_42 hf
set_option maxHeartbeats 4000000 in
set_option maxRecDepth 100000 in
theorem c_X7_wouldLightTools {l : Launch} {w : Wp} {L : Ly} {a0 : Nat} {M : Mm} {R0 : Int32 × Mm} (h0 : LWires w L (a0)) (hf : f_X7_wouldLightTools a0 M = some R0) : CT l w L yX7_wouldLightTools cX7_wouldLightTools 2 (some .boolean) 1 [.ref a0] M R0 := by
  unfold f_X7_wouldLightTools at hf
  refine CT_of pn_X7 (Nat.le_of_ble_eq_true rfl) (fun E cx en => ?_)
  have cx : Ok w L E RX7 cX7_wouldLightTools 2 1 := cx
  show G l w L E M [(0, .ref a0)] 0 []
  refine g_iconst (pc := 0) (v := 0) cx dX7_wouldLightTools_0 (by decide) ?_
  refine g_istore_n (pc := 1) cx [(1, .int 0), (0, .ref a0)] dX7_wouldLightTools_1 rfl (by decide) rfl ?_
  refine g_sub [1, 0] [(0, .ref a0), (1, .int 0)] rfl ?_
  exact w_X7_wouldLightTools_2 cx en h0 FU hf
/-! X7_againstClosing -/
def b_X7_againstClosing_44 (a0 : Nat) (M : Mm) (s0 : Int32) : OR := some (s0, M)
def f_X7_againstClosing (a0 : Nat) (M : Mm) (x1 : Int32) : OR := ckd x1 16 (if (zb (M ((a0 + 1) + 4) (ix x1))) = 0 then obn (f_X7_supposeIsolator a0 M x1 1) fun _ M1 => (obn (f_X7_wouldLightEarth a0 M1) fun q6 M4 => (if q6 = 0 then obn (f_X7_wouldLightTools a0 M4) fun q9 M7 => (if q9 = 0 then b_X7_againstClosing_44 a0 M7 0 else b_X7_againstClosing_44 a0 M7 43) else some (42, M4))) else some (41, M))
set_option maxHeartbeats 4000000 in
set_option maxRecDepth 100000 in
theorem w_X7_againstClosing_44 {l : Launch} {w : Wp} {L : Ly} {E : Cx} {a0 : Nat} {s0 : Int32} {R0 : Int32 × Mm} (cx : Ok w L E RX7 cX7_againstClosing 2 3) (en : En w L E (some .int) R0) (h0 : LWires w L (a0)) {M : Mm} (hf : b_X7_againstClosing_44 a0 M s0 = some R0) : G l w L E M [] 44 [.int s0] := by
  unfold b_X7_againstClosing_44 at hf
  exact g_iret (pc := 44) cx en dX7_againstClosing_44 rfl hf
set_option maxHeartbeats 4000000 in
set_option maxRecDepth 100000 in
theorem c_X7_againstClosing {l : Launch} {w : Wp} {L : Ly} {a0 : Nat} {M : Mm} {x1 : Int32} {R0 : Int32 × Mm} (h0 : LWires w L (a0)) (hf : f_X7_againstClosing a0 M x1 = some R0) : CT l w L yX7_againstClosing cX7_againstClosing 2 (some .int) 3 [.ref a0, .int x1] M R0 := by
  unfold f_X7_againstClosing at hf
  refine CT_of pn_X7 (Nat.le_of_ble_eq_true rfl) (fun E cx en => ?_)
  have cx : Ok w L E RX7 cX7_againstClosing 2 3 := cx
  show G l w L E M [(0, .ref a0), (1, .int x1)] 0 []
  refine g_aload_n (pc := 0) cx dX7_againstClosing_0 rfl 0 rfl ?_
  refine fg_X7_12 (pc := 1) cx dX7_againstClosing_1 h0 ?_
  refine fg_X7_160 (pc := 4) cx dX7_againstClosing_4 (LWires_net h0) ?_
  refine g_iload_n (pc := 7) cx dX7_againstClosing_7 rfl 1 rfl ?_
  refine g_zald (pc := 8) cx (LNet_closed (LWires_net h0)) dX7_againstClosing_8 hf (fun hf => ?_)
  refine g_if_eq (pc := 9) (tgt := 15) cx dX7_againstClosing_9 rfl hf (fun hf => ?_) (fun hf => ?_)
  · refine g_aload_n (pc := 15) cx dX7_againstClosing_15 rfl 0 rfl ?_
    refine g_iload_n (pc := 16) cx dX7_againstClosing_16 rfl 1 rfl ?_
    refine g_iconst (pc := 17) (v := 1) cx dX7_againstClosing_17 (by decide) ?_
    obtain ⟨q3, M1, hc2, hf⟩ := obn_some2 hf
    refine g_callVv (pc := 18) [.int x1, .int 1] [] cx lk_X7_107 vw_X7 (LWires_o h0) (by decide) (c_X7_supposeIsolator h0 hc2) dX7_againstClosing_18 (Nat.le_of_ble_eq_true rfl) ?_
    refine g_aload_n (pc := 21) cx dX7_againstClosing_21 rfl 0 rfl ?_
    obtain ⟨q6, M4, hc5, hf⟩ := obn_some2 hf
    refine g_callVi (pc := 22) [] [] cx lk_X7_167 vw_X7 (LWires_o h0) (by decide) (c_X7_wouldLightEarth h0 hc5) dX7_againstClosing_22 (Nat.le_of_ble_eq_true rfl) ?_
    refine g_if_eq (pc := 25) (tgt := 31) cx dX7_againstClosing_25 rfl hf (fun hf => ?_) (fun hf => ?_)
    · refine g_aload_n (pc := 31) cx dX7_againstClosing_31 rfl 0 rfl ?_
      obtain ⟨q9, M7, hc8, hf⟩ := obn_some2 hf
      refine g_callVi (pc := 32) [] [] cx lk_X7_170 vw_X7 (LWires_o h0) (by decide) (c_X7_wouldLightTools h0 hc8) dX7_againstClosing_32 (Nat.le_of_ble_eq_true rfl) ?_
      refine g_if_eq (pc := 35) (tgt := 43) cx dX7_againstClosing_35 rfl hf (fun hf => ?_) (fun hf => ?_)
      · refine g_iconst (pc := 43) (v := 0) cx dX7_againstClosing_43 (by decide) ?_
        refine g_sub [] [] rfl ?_
        exact w_X7_againstClosing_44 cx en h0 hf
      · refine g_bipush (pc := 38) (v := 43) cx dX7_againstClosing_38 (by decide) ?_
        refine g_goto (pc := 40) (tgt := 44) cx dX7_againstClosing_40 rfl ?_
        refine g_sub [] [] rfl ?_
        exact w_X7_againstClosing_44 cx en h0 hf
    · refine g_bipush (pc := 28) (v := 42) cx dX7_againstClosing_28 (by decide) ?_
      exact g_iret (pc := 30) cx en dX7_againstClosing_30 rfl hf
  · refine g_bipush (pc := 12) (v := 41) cx dX7_againstClosing_12 (by decide) ?_
    exact g_iret (pc := 14) cx en dX7_againstClosing_14 rfl hf
/-! X7_againstEarthing -/
def b_X7_againstEarthing_48 (a0 : Nat) (M : Mm) (s0 : Int32) : OR := some (s0, M)
def f_X7_againstEarthing (a0 : Nat) (M : Mm) (x1 : Int32) : OR := ckd x1 10 (if (zb (M ((a0 + 8) + 3) (ix x1))) = 0 then ckd x1 10 (if (zb (M ((a0 + 1) + 6) (ix x1))) = 0 then ckd x1 10 (if (zb (M ((a0 + 8) + 2) (ix x1))) = 0 then b_X7_againstEarthing_48 a0 M 73 else b_X7_againstEarthing_48 a0 M 0) else some (72, M)) else some (71, M))
set_option maxHeartbeats 4000000 in
set_option maxRecDepth 100000 in
theorem w_X7_againstEarthing_48 {l : Launch} {w : Wp} {L : Ly} {E : Cx} {a0 : Nat} {s0 : Int32} {R0 : Int32 × Mm} (cx : Ok w L E RX7 cX7_againstEarthing 2 0) (en : En w L E (some .int) R0) (h0 : LWires w L (a0)) {M : Mm} (hf : b_X7_againstEarthing_48 a0 M s0 = some R0) : G l w L E M [] 48 [.int s0] := by
  unfold b_X7_againstEarthing_48 at hf
  exact g_iret (pc := 48) cx en dX7_againstEarthing_48 rfl hf
set_option maxHeartbeats 4000000 in
set_option maxRecDepth 100000 in
theorem c_X7_againstEarthing {l : Launch} {w : Wp} {L : Ly} {a0 : Nat} {M : Mm} {x1 : Int32} {R0 : Int32 × Mm} (h0 : LWires w L (a0)) (hf : f_X7_againstEarthing a0 M x1 = some R0) : CT l w L yX7_againstEarthing cX7_againstEarthing 2 (some .int) 0 [.ref a0, .int x1] M R0 := by
  unfold f_X7_againstEarthing at hf
  refine CT_of pn_X7 (Nat.le_of_ble_eq_true rfl) (fun E cx en => ?_)
  have cx : Ok w L E RX7 cX7_againstEarthing 2 0 := cx
  show G l w L E M [(0, .ref a0), (1, .int x1)] 0 []
  refine g_aload_n (pc := 0) cx dX7_againstEarthing_0 rfl 0 rfl ?_
  refine fg_X7_21 (pc := 1) cx dX7_againstEarthing_1 h0 ?_
  refine fg_X7_94 (pc := 4) cx dX7_againstEarthing_4 (LWires_service h0) ?_
  refine g_iload_n (pc := 7) cx dX7_againstEarthing_7 rfl 1 rfl ?_
  refine g_zald (pc := 8) cx (LService_earthed (LWires_service h0)) dX7_againstEarthing_8 hf (fun hf => ?_)
  refine g_if_eq (pc := 9) (tgt := 15) cx dX7_againstEarthing_9 rfl hf (fun hf => ?_) (fun hf => ?_)
  · refine g_aload_n (pc := 15) cx dX7_againstEarthing_15 rfl 0 rfl ?_
    refine fg_X7_12 (pc := 16) cx dX7_againstEarthing_16 h0 ?_
    refine fg_X7_100 (pc := 19) cx dX7_againstEarthing_19 (LWires_net h0) ?_
    refine g_iload_n (pc := 22) cx dX7_againstEarthing_22 rfl 1 rfl ?_
    refine g_zald (pc := 23) cx (LNet_live (LWires_net h0)) dX7_againstEarthing_23 hf (fun hf => ?_)
    refine g_if_eq (pc := 24) (tgt := 30) cx dX7_againstEarthing_24 rfl hf (fun hf => ?_) (fun hf => ?_)
    · refine g_aload_n (pc := 30) cx dX7_againstEarthing_30 rfl 0 rfl ?_
      refine fg_X7_21 (pc := 31) cx dX7_againstEarthing_31 h0 ?_
      refine fg_X7_153 (pc := 34) cx dX7_againstEarthing_34 (LWires_service h0) ?_
      refine g_iload_n (pc := 37) cx dX7_againstEarthing_37 rfl 1 rfl ?_
      refine g_zald (pc := 38) cx (LService_bridged (LWires_service h0)) dX7_againstEarthing_38 hf (fun hf => ?_)
      refine g_if_eq (pc := 39) (tgt := 46) cx dX7_againstEarthing_39 rfl hf (fun hf => ?_) (fun hf => ?_)
      · refine g_bipush (pc := 46) (v := 73) cx dX7_againstEarthing_46 (by decide) ?_
        refine g_sub [] [] rfl ?_
        exact w_X7_againstEarthing_48 cx en h0 hf
      · refine g_iconst (pc := 42) (v := 0) cx dX7_againstEarthing_42 (by decide) ?_
        refine g_goto (pc := 43) (tgt := 48) cx dX7_againstEarthing_43 rfl ?_
        refine g_sub [] [] rfl ?_
        exact w_X7_againstEarthing_48 cx en h0 hf
    · refine g_bipush (pc := 27) (v := 72) cx dX7_againstEarthing_27 (by decide) ?_
      exact g_iret (pc := 29) cx en dX7_againstEarthing_29 rfl hf
  · refine g_bipush (pc := 12) (v := 71) cx dX7_againstEarthing_12 (by decide) ?_
    exact g_iret (pc := 14) cx en dX7_againstEarthing_14 rfl hf
/-! X7_wouldDarkenTrams -/
def b_X7_wouldDarkenTrams_35 (a0 : Nat) (rc2 : Mm → Int32 → OR) (M : Mm) (x1 : Int32) : OR := rc2 M (x1 + 1)
def l_X7_wouldDarkenTrams_2 (a0 : Nat) : Nat → Mm → Int32 → OR
  | 0, _, _ => none
  | k + 1, M, x1 => if x1 < (M (a0 + 1) 0) then ckd x1 10 (if (zb (M ((a0 + 8) + 2) (ix x1))) = 0 then obn (f_X7_wouldDarken a0 M x1) fun q3 M1 => (if q3 = 0 then b_X7_wouldDarkenTrams_35 a0 (l_X7_wouldDarkenTrams_2 a0 k) M1 x1 else zrk 1 (some (1, M1))) else b_X7_wouldDarkenTrams_35 a0 (l_X7_wouldDarkenTrams_2 a0 k) M x1) else zrk 0 (some (0, M))
def f_X7_wouldDarkenTrams (a0 : Nat) (M : Mm) : OR := l_X7_wouldDarkenTrams_2 a0 FU M 0
set_option maxHeartbeats 4000000 in
set_option maxRecDepth 100000 in
theorem w_X7_wouldDarkenTrams_35 {l : Launch} {w : Wp} {L : Ly} {E : Cx} {a0 : Nat} {rc2 : Mm → Int32 → OR} {x1 : Int32} {R0 : Int32 × Mm} (cx : Ok w L E RX7 cX7_wouldDarkenTrams 2 1) (en : En w L E (some .boolean) R0) (h0 : LWires w L (a0)) (hrc2 : ∀ (M : Mm) (x1 : Int32), rc2 M x1 = some R0 → G l w L E M [(0, .ref a0), (1, .int x1)] 2 []) {M : Mm} (hf : b_X7_wouldDarkenTrams_35 a0 rc2 M x1 = some R0) : G l w L E M [(0, .ref a0), (1, .int x1)] 35 [] := by
  unfold b_X7_wouldDarkenTrams_35 at hf
  refine g_iinc (pc := 35) cx [(1, .int (x1 + 1)), (0, .ref a0)] dX7_wouldDarkenTrams_35 1 rfl rfl (by decide) rfl ?_
  refine g_goto (pc := 38) (tgt := 2) cx dX7_wouldDarkenTrams_38 rfl ?_
  refine g_sub [1, 0] [(0, .ref a0), (1, .int (x1 + 1))] rfl ?_
  exact hrc2 _ _ hf
set_option maxHeartbeats 4000000 in
set_option maxRecDepth 100000 in
theorem w_X7_wouldDarkenTrams_2 {l : Launch} {w : Wp} {L : Ly} {E : Cx} {a0 : Nat} {R0 : Int32 × Mm} (cx : Ok w L E RX7 cX7_wouldDarkenTrams 2 1) (en : En w L E (some .boolean) R0) (h0 : LWires w L (a0)) : ∀ (k : Nat) {M : Mm} {x1 : Int32}, l_X7_wouldDarkenTrams_2 a0 k M x1 = some R0 → G l w L E M [(0, .ref a0), (1, .int x1)] 2 [] := by
  intro k
  induction k with
  | zero =>
    intro M x1 hf
    exact absurd hf (by simp [l_X7_wouldDarkenTrams_2])
  | succ k ih =>
    intro M x1 hf
    unfold l_X7_wouldDarkenTrams_2 at hf
    refine g_iload_n (pc := 2) cx dX7_wouldDarkenTrams_2 rfl 1 rfl ?_
    refine g_aload_n (pc := 3) cx dX7_wouldDarkenTrams_3 rfl 0 rfl ?_
    refine fg_X7_12 (pc := 4) cx dX7_wouldDarkenTrams_4 h0 ?_
    refine fg_X7_49 (pc := 7) cx dX7_wouldDarkenTrams_7 (LWires_net h0) ?_
    refine g_icmp_ge (pc := 10) (tgt := 41) cx dX7_wouldDarkenTrams_10 rfl hf (fun hf => ?_) (fun hf => ?_)
    · refine g_aload_n (pc := 13) cx dX7_wouldDarkenTrams_13 rfl 0 rfl ?_
      refine fg_X7_21 (pc := 14) cx dX7_wouldDarkenTrams_14 h0 ?_
      refine fg_X7_153 (pc := 17) cx dX7_wouldDarkenTrams_17 (LWires_service h0) ?_
      refine g_iload_n (pc := 20) cx dX7_wouldDarkenTrams_20 rfl 1 rfl ?_
      refine g_zald (pc := 21) cx (LService_bridged (LWires_service h0)) dX7_wouldDarkenTrams_21 hf (fun hf => ?_)
      refine g_if_ne (pc := 22) (tgt := 35) cx dX7_wouldDarkenTrams_22 rfl hf (fun hf => ?_) (fun hf => ?_)
      · refine g_aload_n (pc := 25) cx dX7_wouldDarkenTrams_25 rfl 0 rfl ?_
        refine g_iload_n (pc := 26) cx dX7_wouldDarkenTrams_26 rfl 1 rfl ?_
        obtain ⟨q3, M1, hc2, hf⟩ := obn_some2 hf
        refine g_callVi (pc := 27) [.int x1] [] cx lk_X7_110 vw_X7 (LWires_o h0) (by decide) (c_X7_wouldDarken h0 hc2) dX7_wouldDarkenTrams_27 (Nat.le_of_ble_eq_true rfl) ?_
        refine g_if_eq (pc := 30) (tgt := 35) cx dX7_wouldDarkenTrams_30 rfl hf (fun hf => ?_) (fun hf => ?_)
        · exact w_X7_wouldDarkenTrams_35 cx en h0 (fun _ _ hf => ih hf) hf
        · refine g_iconst (pc := 33) (v := 1) cx dX7_wouldDarkenTrams_33 (by decide) ?_
          exact g_zret (pc := 34) cx en dX7_wouldDarkenTrams_34 hf
      · exact w_X7_wouldDarkenTrams_35 cx en h0 (fun _ _ hf => ih hf) hf
    · refine g_iconst (pc := 41) (v := 0) cx dX7_wouldDarkenTrams_41 (by decide) ?_
      exact g_zret (pc := 42) cx en dX7_wouldDarkenTrams_42 hf
set_option maxHeartbeats 4000000 in
set_option maxRecDepth 100000 in
theorem c_X7_wouldDarkenTrams {l : Launch} {w : Wp} {L : Ly} {a0 : Nat} {M : Mm} {R0 : Int32 × Mm} (h0 : LWires w L (a0)) (hf : f_X7_wouldDarkenTrams a0 M = some R0) : CT l w L yX7_wouldDarkenTrams cX7_wouldDarkenTrams 2 (some .boolean) 1 [.ref a0] M R0 := by
  unfold f_X7_wouldDarkenTrams at hf
  refine CT_of pn_X7 (Nat.le_of_ble_eq_true rfl) (fun E cx en => ?_)
  have cx : Ok w L E RX7 cX7_wouldDarkenTrams 2 1 := cx
  show G l w L E M [(0, .ref a0)] 0 []
  refine g_iconst (pc := 0) (v := 0) cx dX7_wouldDarkenTrams_0 (by decide) ?_
  refine g_istore_n (pc := 1) cx [(1, .int 0), (0, .ref a0)] dX7_wouldDarkenTrams_1 rfl (by decide) rfl ?_
  refine g_sub [1, 0] [(0, .ref a0), (1, .int 0)] rfl ?_
  exact w_X7_wouldDarkenTrams_2 cx en h0 FU hf
/-! X7_againstOpening -/
def b_X7_againstOpening_34 (a0 : Nat) (M : Mm) (s0 : Int32) : OR := some (s0, M)
def f_X7_againstOpening (a0 : Nat) (M : Mm) (x1 : Int32) : OR := ckd x1 16 (if (zb (M ((a0 + 1) + 4) (ix x1))) = 0 then some (31, M) else obn (f_X7_supposeIsolator a0 M x1 0) fun _ M1 => (obn (f_X7_wouldDarkenTrams a0 M1) fun q6 M4 => (if q6 = 0 then b_X7_againstOpening_34 a0 M4 0 else b_X7_againstOpening_34 a0 M4 32)))
set_option maxHeartbeats 4000000 in
set_option maxRecDepth 100000 in
theorem w_X7_againstOpening_34 {l : Launch} {w : Wp} {L : Ly} {E : Cx} {a0 : Nat} {s0 : Int32} {R0 : Int32 × Mm} (cx : Ok w L E RX7 cX7_againstOpening 2 3) (en : En w L E (some .int) R0) (h0 : LWires w L (a0)) {M : Mm} (hf : b_X7_againstOpening_34 a0 M s0 = some R0) : G l w L E M [] 34 [.int s0] := by
  unfold b_X7_againstOpening_34 at hf
  exact g_iret (pc := 34) cx en dX7_againstOpening_34 rfl hf
set_option maxHeartbeats 4000000 in
set_option maxRecDepth 100000 in
theorem c_X7_againstOpening {l : Launch} {w : Wp} {L : Ly} {a0 : Nat} {M : Mm} {x1 : Int32} {R0 : Int32 × Mm} (h0 : LWires w L (a0)) (hf : f_X7_againstOpening a0 M x1 = some R0) : CT l w L yX7_againstOpening cX7_againstOpening 2 (some .int) 3 [.ref a0, .int x1] M R0 := by
  unfold f_X7_againstOpening at hf
  refine CT_of pn_X7 (Nat.le_of_ble_eq_true rfl) (fun E cx en => ?_)
  have cx : Ok w L E RX7 cX7_againstOpening 2 3 := cx
  show G l w L E M [(0, .ref a0), (1, .int x1)] 0 []
  refine g_aload_n (pc := 0) cx dX7_againstOpening_0 rfl 0 rfl ?_
  refine fg_X7_12 (pc := 1) cx dX7_againstOpening_1 h0 ?_
  refine fg_X7_160 (pc := 4) cx dX7_againstOpening_4 (LWires_net h0) ?_
  refine g_iload_n (pc := 7) cx dX7_againstOpening_7 rfl 1 rfl ?_
  refine g_zald (pc := 8) cx (LNet_closed (LWires_net h0)) dX7_againstOpening_8 hf (fun hf => ?_)
  refine g_if_ne (pc := 9) (tgt := 15) cx dX7_againstOpening_9 rfl hf (fun hf => ?_) (fun hf => ?_)
  · refine g_bipush (pc := 12) (v := 31) cx dX7_againstOpening_12 (by decide) ?_
    exact g_iret (pc := 14) cx en dX7_againstOpening_14 rfl hf
  · refine g_aload_n (pc := 15) cx dX7_againstOpening_15 rfl 0 rfl ?_
    refine g_iload_n (pc := 16) cx dX7_againstOpening_16 rfl 1 rfl ?_
    refine g_iconst (pc := 17) (v := 0) cx dX7_againstOpening_17 (by decide) ?_
    obtain ⟨q3, M1, hc2, hf⟩ := obn_some2 hf
    refine g_callVv (pc := 18) [.int x1, .int 0] [] cx lk_X7_107 vw_X7 (LWires_o h0) (by decide) (c_X7_supposeIsolator h0 hc2) dX7_againstOpening_18 (Nat.le_of_ble_eq_true rfl) ?_
    refine g_aload_n (pc := 21) cx dX7_againstOpening_21 rfl 0 rfl ?_
    obtain ⟨q6, M4, hc5, hf⟩ := obn_some2 hf
    refine g_callVi (pc := 22) [] [] cx lk_X7_163 vw_X7 (LWires_o h0) (by decide) (c_X7_wouldDarkenTrams h0 hc5) dX7_againstOpening_22 (Nat.le_of_ble_eq_true rfl) ?_
    refine g_if_eq (pc := 25) (tgt := 33) cx dX7_againstOpening_25 rfl hf (fun hf => ?_) (fun hf => ?_)
    · refine g_iconst (pc := 33) (v := 0) cx dX7_againstOpening_33 (by decide) ?_
      refine g_sub [] [] rfl ?_
      exact w_X7_againstOpening_34 cx en h0 hf
    · refine g_bipush (pc := 28) (v := 32) cx dX7_againstOpening_28 (by decide) ?_
      refine g_goto (pc := 30) (tgt := 34) cx dX7_againstOpening_30 rfl ?_
      refine g_sub [] [] rfl ?_
      exact w_X7_againstOpening_34 cx en h0 hf
/-! X7_againstTakingEarth -/
def b_X7_againstTakingEarth_33 (a0 : Nat) (M : Mm) (s0 : Int32) : OR := some (s0, M)
def f_X7_againstTakingEarth (a0 : Nat) (M : Mm) (x1 : Int32) : OR := ckd x1 10 (if (zb (M ((a0 + 8) + 3) (ix x1))) = 0 then some (81, M) else ckd x1 10 (if (zb (M ((a0 + 8) + 4) (ix x1))) = 0 then b_X7_againstTakingEarth_33 a0 M 0 else b_X7_againstTakingEarth_33 a0 M 82))
set_option maxHeartbeats 4000000 in
set_option maxRecDepth 100000 in
theorem w_X7_againstTakingEarth_33 {l : Launch} {w : Wp} {L : Ly} {E : Cx} {a0 : Nat} {s0 : Int32} {R0 : Int32 × Mm} (cx : Ok w L E RX7 cX7_againstTakingEarth 2 0) (en : En w L E (some .int) R0) (h0 : LWires w L (a0)) {M : Mm} (hf : b_X7_againstTakingEarth_33 a0 M s0 = some R0) : G l w L E M [] 33 [.int s0] := by
  unfold b_X7_againstTakingEarth_33 at hf
  exact g_iret (pc := 33) cx en dX7_againstTakingEarth_33 rfl hf
set_option maxHeartbeats 4000000 in
set_option maxRecDepth 100000 in
theorem c_X7_againstTakingEarth {l : Launch} {w : Wp} {L : Ly} {a0 : Nat} {M : Mm} {x1 : Int32} {R0 : Int32 × Mm} (h0 : LWires w L (a0)) (hf : f_X7_againstTakingEarth a0 M x1 = some R0) : CT l w L yX7_againstTakingEarth cX7_againstTakingEarth 2 (some .int) 0 [.ref a0, .int x1] M R0 := by
  unfold f_X7_againstTakingEarth at hf
  refine CT_of pn_X7 (Nat.le_of_ble_eq_true rfl) (fun E cx en => ?_)
  have cx : Ok w L E RX7 cX7_againstTakingEarth 2 0 := cx
  show G l w L E M [(0, .ref a0), (1, .int x1)] 0 []
  refine g_aload_n (pc := 0) cx dX7_againstTakingEarth_0 rfl 0 rfl ?_
  refine fg_X7_21 (pc := 1) cx dX7_againstTakingEarth_1 h0 ?_
  refine fg_X7_94 (pc := 4) cx dX7_againstTakingEarth_4 (LWires_service h0) ?_
  refine g_iload_n (pc := 7) cx dX7_againstTakingEarth_7 rfl 1 rfl ?_
  refine g_zald (pc := 8) cx (LService_earthed (LWires_service h0)) dX7_againstTakingEarth_8 hf (fun hf => ?_)
  refine g_if_ne (pc := 9) (tgt := 15) cx dX7_againstTakingEarth_9 rfl hf (fun hf => ?_) (fun hf => ?_)
  · refine g_bipush (pc := 12) (v := 81) cx dX7_againstTakingEarth_12 (by decide) ?_
    exact g_iret (pc := 14) cx en dX7_againstTakingEarth_14 rfl hf
  · refine g_aload_n (pc := 15) cx dX7_againstTakingEarth_15 rfl 0 rfl ?_
    refine fg_X7_21 (pc := 16) cx dX7_againstTakingEarth_16 h0 ?_
    refine fg_X7_179 (pc := 19) cx dX7_againstTakingEarth_19 (LWires_service h0) ?_
    refine g_iload_n (pc := 22) cx dX7_againstTakingEarth_22 rfl 1 rfl ?_
    refine g_zald (pc := 23) cx (LService_gang (LWires_service h0)) dX7_againstTakingEarth_23 hf (fun hf => ?_)
    refine g_if_eq (pc := 24) (tgt := 32) cx dX7_againstTakingEarth_24 rfl hf (fun hf => ?_) (fun hf => ?_)
    · refine g_iconst (pc := 32) (v := 0) cx dX7_againstTakingEarth_32 (by decide) ?_
      refine g_sub [] [] rfl ?_
      exact w_X7_againstTakingEarth_33 cx en h0 hf
    · refine g_bipush (pc := 27) (v := 82) cx dX7_againstTakingEarth_27 (by decide) ?_
      refine g_goto (pc := 29) (tgt := 33) cx dX7_againstTakingEarth_29 rfl ?_
      refine g_sub [] [] rfl ?_
      exact w_X7_againstTakingEarth_33 cx en h0 hf
/-! X7_againstTrams -/
def b_X7_againstTrams_48 (a0 : Nat) (M : Mm) (s0 : Int32) : OR := some (s0, M)
def f_X7_againstTrams (a0 : Nat) (M : Mm) (x1 : Int32) : OR := ckd x1 10 (if (zb (M ((a0 + 8) + 2) (ix x1))) = 0 then some (21, M) else ckd x1 10 (if (zb (M ((a0 + 1) + 6) (ix x1))) = 0 then some (22, M) else ckd x1 10 (if 0 < (M ((a0 + 8) + 7) (ix x1)) then b_X7_againstTrams_48 a0 M 23 else b_X7_againstTrams_48 a0 M 0)))
set_option maxHeartbeats 4000000 in
set_option maxRecDepth 100000 in
theorem w_X7_againstTrams_48 {l : Launch} {w : Wp} {L : Ly} {E : Cx} {a0 : Nat} {s0 : Int32} {R0 : Int32 × Mm} (cx : Ok w L E RX7 cX7_againstTrams 2 0) (en : En w L E (some .int) R0) (h0 : LWires w L (a0)) {M : Mm} (hf : b_X7_againstTrams_48 a0 M s0 = some R0) : G l w L E M [] 48 [.int s0] := by
  unfold b_X7_againstTrams_48 at hf
  exact g_iret (pc := 48) cx en dX7_againstTrams_48 rfl hf
set_option maxHeartbeats 4000000 in
set_option maxRecDepth 100000 in
theorem c_X7_againstTrams {l : Launch} {w : Wp} {L : Ly} {a0 : Nat} {M : Mm} {x1 : Int32} {R0 : Int32 × Mm} (h0 : LWires w L (a0)) (hf : f_X7_againstTrams a0 M x1 = some R0) : CT l w L yX7_againstTrams cX7_againstTrams 2 (some .int) 0 [.ref a0, .int x1] M R0 := by
  unfold f_X7_againstTrams at hf
  refine CT_of pn_X7 (Nat.le_of_ble_eq_true rfl) (fun E cx en => ?_)
  have cx : Ok w L E RX7 cX7_againstTrams 2 0 := cx
  show G l w L E M [(0, .ref a0), (1, .int x1)] 0 []
  refine g_aload_n (pc := 0) cx dX7_againstTrams_0 rfl 0 rfl ?_
  refine fg_X7_21 (pc := 1) cx dX7_againstTrams_1 h0 ?_
  refine fg_X7_153 (pc := 4) cx dX7_againstTrams_4 (LWires_service h0) ?_
  refine g_iload_n (pc := 7) cx dX7_againstTrams_7 rfl 1 rfl ?_
  refine g_zald (pc := 8) cx (LService_bridged (LWires_service h0)) dX7_againstTrams_8 hf (fun hf => ?_)
  refine g_if_ne (pc := 9) (tgt := 15) cx dX7_againstTrams_9 rfl hf (fun hf => ?_) (fun hf => ?_)
  · refine g_bipush (pc := 12) (v := 21) cx dX7_againstTrams_12 (by decide) ?_
    exact g_iret (pc := 14) cx en dX7_againstTrams_14 rfl hf
  · refine g_aload_n (pc := 15) cx dX7_againstTrams_15 rfl 0 rfl ?_
    refine fg_X7_12 (pc := 16) cx dX7_againstTrams_16 h0 ?_
    refine fg_X7_100 (pc := 19) cx dX7_againstTrams_19 (LWires_net h0) ?_
    refine g_iload_n (pc := 22) cx dX7_againstTrams_22 rfl 1 rfl ?_
    refine g_zald (pc := 23) cx (LNet_live (LWires_net h0)) dX7_againstTrams_23 hf (fun hf => ?_)
    refine g_if_ne (pc := 24) (tgt := 30) cx dX7_againstTrams_24 rfl hf (fun hf => ?_) (fun hf => ?_)
    · refine g_bipush (pc := 27) (v := 22) cx dX7_againstTrams_27 (by decide) ?_
      exact g_iret (pc := 29) cx en dX7_againstTrams_29 rfl hf
    · refine g_aload_n (pc := 30) cx dX7_againstTrams_30 rfl 0 rfl ?_
      refine fg_X7_21 (pc := 31) cx dX7_againstTrams_31 h0 ?_
      refine fg_X7_97 (pc := 34) cx dX7_againstTrams_34 (LWires_service h0) ?_
      refine g_iload_n (pc := 37) cx dX7_againstTrams_37 rfl 1 rfl ?_
      refine g_iald (pc := 38) cx (LService_tools (LWires_service h0)) dX7_againstTrams_38 hf (fun hf => ?_)
      refine g_if_le (pc := 39) (tgt := 47) cx dX7_againstTrams_39 rfl hf (fun hf => ?_) (fun hf => ?_)
      · refine g_bipush (pc := 42) (v := 23) cx dX7_againstTrams_42 (by decide) ?_
        refine g_goto (pc := 44) (tgt := 48) cx dX7_againstTrams_44 rfl ?_
        refine g_sub [] [] rfl ?_
        exact w_X7_againstTrams_48 cx en h0 hf
      · refine g_iconst (pc := 47) (v := 0) cx dX7_againstTrams_47 (by decide) ?_
        refine g_sub [] [] rfl ?_
        exact w_X7_againstTrams_48 cx en h0 hf
/-! X7_supposeFeeder -/
def f_X7_supposeFeeder (a0 : Nat) (M : Mm) (x1 : Int32) (x2 : Int32) : OR := obn (f_X2_copyFrom (a0 + 24) (a0 + 1) M) fun _ M1 => (obn (f_X2_setFeeder (a0 + 24) M1 x1 x2) fun _ M4 => (some (0, M4)))
set_option maxHeartbeats 4000000 in
set_option maxRecDepth 100000 in
theorem c_X7_supposeFeeder {l : Launch} {w : Wp} {L : Ly} {a0 : Nat} {M : Mm} {x1 : Int32} {x2 : Int32} {R0 : Int32 × Mm} (h0 : LWires w L (a0)) (hf : f_X7_supposeFeeder a0 M x1 x2 = some R0) : CT l w L yX7_supposeFeeder cX7_supposeFeeder 3 none 2 [.ref a0, .int x1, .int x2] M R0 := by
  unfold f_X7_supposeFeeder at hf
  refine CT_of pn_X7 (Nat.le_of_ble_eq_true rfl) (fun E cx en => ?_)
  have cx : Ok w L E RX7 cX7_supposeFeeder 3 2 := cx
  show G l w L E M [(0, .ref a0), (1, .int x1), (2, .int x2)] 0 []
  refine g_aload_n (pc := 0) cx dX7_supposeFeeder_0 rfl 0 rfl ?_
  refine fg_X7_32 (pc := 1) cx dX7_supposeFeeder_1 h0 ?_
  refine g_aload_n (pc := 4) cx dX7_supposeFeeder_4 rfl 0 rfl ?_
  refine fg_X7_12 (pc := 5) cx dX7_supposeFeeder_5 h0 ?_
  obtain ⟨q3, M1, hc2, hf⟩ := obn_some2 hf
  refine g_callVv (pc := 8) [.ref (a0 + 1)] [] cx lk_X7_39 vw_X2 (LNet_o (LWires_supposed h0)) (by decide) (c_X2_copyFrom (LWires_supposed h0) (LWires_net h0) hc2) dX7_supposeFeeder_8 (Nat.le_of_ble_eq_true rfl) ?_
  refine g_aload_n (pc := 11) cx dX7_supposeFeeder_11 rfl 0 rfl ?_
  refine fg_X7_32 (pc := 12) cx dX7_supposeFeeder_12 h0 ?_
  refine g_iload_n (pc := 15) cx dX7_supposeFeeder_15 rfl 1 rfl ?_
  refine g_iload_n (pc := 16) cx dX7_supposeFeeder_16 rfl 2 rfl ?_
  obtain ⟨q6, M4, hc5, hf⟩ := obn_some2 hf
  refine g_callVv (pc := 17) [.int x1, .int x2] [] cx lk_X7_77 vw_X2 (LNet_o (LWires_supposed h0)) (by decide) (c_X2_setFeeder (LWires_supposed h0) hc5) dX7_supposeFeeder_17 (Nat.le_of_ble_eq_true rfl) ?_
  exact g_vret (pc := 20) cx en dX7_supposeFeeder_20 hf
/-! X7_againstTurningOff -/
def b_X7_againstTurningOff_35 (a0 : Nat) (M : Mm) (s0 : Int32) : OR := some (s0, M)
def f_X7_againstTurningOff (a0 : Nat) (M : Mm) (x1 : Int32) : OR := ckd x1 10 (if (M ((a0 + 1) + 1) (ix x1)) = 2 then obn (f_X7_supposeFeeder a0 M x1 1) fun _ M1 => (obn (f_X7_wouldDarkenTrams a0 M1) fun q6 M4 => (if q6 = 0 then b_X7_againstTurningOff_35 a0 M4 0 else b_X7_againstTurningOff_35 a0 M4 52)) else some (51, M))
set_option maxHeartbeats 4000000 in
set_option maxRecDepth 100000 in
theorem w_X7_againstTurningOff_35 {l : Launch} {w : Wp} {L : Ly} {E : Cx} {a0 : Nat} {s0 : Int32} {R0 : Int32 × Mm} (cx : Ok w L E RX7 cX7_againstTurningOff 2 3) (en : En w L E (some .int) R0) (h0 : LWires w L (a0)) {M : Mm} (hf : b_X7_againstTurningOff_35 a0 M s0 = some R0) : G l w L E M [] 35 [.int s0] := by
  unfold b_X7_againstTurningOff_35 at hf
  exact g_iret (pc := 35) cx en dX7_againstTurningOff_35 rfl hf
set_option maxHeartbeats 4000000 in
set_option maxRecDepth 100000 in
theorem c_X7_againstTurningOff {l : Launch} {w : Wp} {L : Ly} {a0 : Nat} {M : Mm} {x1 : Int32} {R0 : Int32 × Mm} (h0 : LWires w L (a0)) (hf : f_X7_againstTurningOff a0 M x1 = some R0) : CT l w L yX7_againstTurningOff cX7_againstTurningOff 2 (some .int) 3 [.ref a0, .int x1] M R0 := by
  unfold f_X7_againstTurningOff at hf
  refine CT_of pn_X7 (Nat.le_of_ble_eq_true rfl) (fun E cx en => ?_)
  have cx : Ok w L E RX7 cX7_againstTurningOff 2 3 := cx
  show G l w L E M [(0, .ref a0), (1, .int x1)] 0 []
  refine g_aload_n (pc := 0) cx dX7_againstTurningOff_0 rfl 0 rfl ?_
  refine fg_X7_12 (pc := 1) cx dX7_againstTurningOff_1 h0 ?_
  refine fg_X7_173 (pc := 4) cx dX7_againstTurningOff_4 (LWires_net h0) ?_
  refine g_iload_n (pc := 7) cx dX7_againstTurningOff_7 rfl 1 rfl ?_
  refine g_iald (pc := 8) cx (LNet_feeder (LWires_net h0)) dX7_againstTurningOff_8 hf (fun hf => ?_)
  refine g_iconst (pc := 9) (v := 2) cx dX7_againstTurningOff_9 (by decide) ?_
  refine g_icmp_eq (pc := 10) (tgt := 16) cx dX7_againstTurningOff_10 rfl hf (fun hf => ?_) (fun hf => ?_)
  · refine g_aload_n (pc := 16) cx dX7_againstTurningOff_16 rfl 0 rfl ?_
    refine g_iload_n (pc := 17) cx dX7_againstTurningOff_17 rfl 1 rfl ?_
    refine g_iconst (pc := 18) (v := 1) cx dX7_againstTurningOff_18 (by decide) ?_
    obtain ⟨q3, M1, hc2, hf⟩ := obn_some2 hf
    refine g_callVv (pc := 19) [.int x1, .int 1] [] cx lk_X7_176 vw_X7 (LWires_o h0) (by decide) (c_X7_supposeFeeder h0 hc2) dX7_againstTurningOff_19 (Nat.le_of_ble_eq_true rfl) ?_
    refine g_aload_n (pc := 22) cx dX7_againstTurningOff_22 rfl 0 rfl ?_
    obtain ⟨q6, M4, hc5, hf⟩ := obn_some2 hf
    refine g_callVi (pc := 23) [] [] cx lk_X7_163 vw_X7 (LWires_o h0) (by decide) (c_X7_wouldDarkenTrams h0 hc5) dX7_againstTurningOff_23 (Nat.le_of_ble_eq_true rfl) ?_
    refine g_if_eq (pc := 26) (tgt := 34) cx dX7_againstTurningOff_26 rfl hf (fun hf => ?_) (fun hf => ?_)
    · refine g_iconst (pc := 34) (v := 0) cx dX7_againstTurningOff_34 (by decide) ?_
      refine g_sub [] [] rfl ?_
      exact w_X7_againstTurningOff_35 cx en h0 hf
    · refine g_bipush (pc := 29) (v := 52) cx dX7_againstTurningOff_29 (by decide) ?_
      refine g_goto (pc := 31) (tgt := 35) cx dX7_againstTurningOff_31 rfl ?_
      refine g_sub [] [] rfl ?_
      exact w_X7_againstTurningOff_35 cx en h0 hf
  · refine g_bipush (pc := 13) (v := 51) cx dX7_againstTurningOff_13 (by decide) ?_
    exact g_iret (pc := 15) cx en dX7_againstTurningOff_15 rfl hf
/-! X7_againstTurningOn -/
def b_X7_againstTurningOn_45 (a0 : Nat) (M : Mm) (s0 : Int32) : OR := some (s0, M)
def f_X7_againstTurningOn (a0 : Nat) (M : Mm) (x1 : Int32) : OR := ckd x1 10 (if (M ((a0 + 1) + 1) (ix x1)) = 1 then obn (f_X7_supposeFeeder a0 M x1 2) fun _ M1 => (obn (f_X7_wouldLightEarth a0 M1) fun q6 M4 => (if q6 = 0 then obn (f_X7_wouldLightTools a0 M4) fun q9 M7 => (if q9 = 0 then b_X7_againstTurningOn_45 a0 M7 0 else b_X7_againstTurningOn_45 a0 M7 63) else some (62, M4))) else some (61, M))
set_option maxHeartbeats 4000000 in
set_option maxRecDepth 100000 in
theorem w_X7_againstTurningOn_45 {l : Launch} {w : Wp} {L : Ly} {E : Cx} {a0 : Nat} {s0 : Int32} {R0 : Int32 × Mm} (cx : Ok w L E RX7 cX7_againstTurningOn 2 3) (en : En w L E (some .int) R0) (h0 : LWires w L (a0)) {M : Mm} (hf : b_X7_againstTurningOn_45 a0 M s0 = some R0) : G l w L E M [] 45 [.int s0] := by
  unfold b_X7_againstTurningOn_45 at hf
  exact g_iret (pc := 45) cx en dX7_againstTurningOn_45 rfl hf
set_option maxHeartbeats 4000000 in
set_option maxRecDepth 100000 in
theorem c_X7_againstTurningOn {l : Launch} {w : Wp} {L : Ly} {a0 : Nat} {M : Mm} {x1 : Int32} {R0 : Int32 × Mm} (h0 : LWires w L (a0)) (hf : f_X7_againstTurningOn a0 M x1 = some R0) : CT l w L yX7_againstTurningOn cX7_againstTurningOn 2 (some .int) 3 [.ref a0, .int x1] M R0 := by
  unfold f_X7_againstTurningOn at hf
  refine CT_of pn_X7 (Nat.le_of_ble_eq_true rfl) (fun E cx en => ?_)
  have cx : Ok w L E RX7 cX7_againstTurningOn 2 3 := cx
  show G l w L E M [(0, .ref a0), (1, .int x1)] 0 []
  refine g_aload_n (pc := 0) cx dX7_againstTurningOn_0 rfl 0 rfl ?_
  refine fg_X7_12 (pc := 1) cx dX7_againstTurningOn_1 h0 ?_
  refine fg_X7_173 (pc := 4) cx dX7_againstTurningOn_4 (LWires_net h0) ?_
  refine g_iload_n (pc := 7) cx dX7_againstTurningOn_7 rfl 1 rfl ?_
  refine g_iald (pc := 8) cx (LNet_feeder (LWires_net h0)) dX7_againstTurningOn_8 hf (fun hf => ?_)
  refine g_iconst (pc := 9) (v := 1) cx dX7_againstTurningOn_9 (by decide) ?_
  refine g_icmp_eq (pc := 10) (tgt := 16) cx dX7_againstTurningOn_10 rfl hf (fun hf => ?_) (fun hf => ?_)
  · refine g_aload_n (pc := 16) cx dX7_againstTurningOn_16 rfl 0 rfl ?_
    refine g_iload_n (pc := 17) cx dX7_againstTurningOn_17 rfl 1 rfl ?_
    refine g_iconst (pc := 18) (v := 2) cx dX7_againstTurningOn_18 (by decide) ?_
    obtain ⟨q3, M1, hc2, hf⟩ := obn_some2 hf
    refine g_callVv (pc := 19) [.int x1, .int 2] [] cx lk_X7_176 vw_X7 (LWires_o h0) (by decide) (c_X7_supposeFeeder h0 hc2) dX7_againstTurningOn_19 (Nat.le_of_ble_eq_true rfl) ?_
    refine g_aload_n (pc := 22) cx dX7_againstTurningOn_22 rfl 0 rfl ?_
    obtain ⟨q6, M4, hc5, hf⟩ := obn_some2 hf
    refine g_callVi (pc := 23) [] [] cx lk_X7_167 vw_X7 (LWires_o h0) (by decide) (c_X7_wouldLightEarth h0 hc5) dX7_againstTurningOn_23 (Nat.le_of_ble_eq_true rfl) ?_
    refine g_if_eq (pc := 26) (tgt := 32) cx dX7_againstTurningOn_26 rfl hf (fun hf => ?_) (fun hf => ?_)
    · refine g_aload_n (pc := 32) cx dX7_againstTurningOn_32 rfl 0 rfl ?_
      obtain ⟨q9, M7, hc8, hf⟩ := obn_some2 hf
      refine g_callVi (pc := 33) [] [] cx lk_X7_170 vw_X7 (LWires_o h0) (by decide) (c_X7_wouldLightTools h0 hc8) dX7_againstTurningOn_33 (Nat.le_of_ble_eq_true rfl) ?_
      refine g_if_eq (pc := 36) (tgt := 44) cx dX7_againstTurningOn_36 rfl hf (fun hf => ?_) (fun hf => ?_)
      · refine g_iconst (pc := 44) (v := 0) cx dX7_againstTurningOn_44 (by decide) ?_
        refine g_sub [] [] rfl ?_
        exact w_X7_againstTurningOn_45 cx en h0 hf
      · refine g_bipush (pc := 39) (v := 63) cx dX7_againstTurningOn_39 (by decide) ?_
        refine g_goto (pc := 41) (tgt := 45) cx dX7_againstTurningOn_41 rfl ?_
        refine g_sub [] [] rfl ?_
        exact w_X7_againstTurningOn_45 cx en h0 hf
    · refine g_bipush (pc := 29) (v := 62) cx dX7_againstTurningOn_29 (by decide) ?_
      exact g_iret (pc := 31) cx en dX7_againstTurningOn_31 rfl hf
  · refine g_bipush (pc := 13) (v := 61) cx dX7_againstTurningOn_13 (by decide) ?_
    exact g_iret (pc := 15) cx en dX7_againstTurningOn_15 rfl hf
/-! X7_reasonAgainst -/
def f_X7_reasonAgainst (a0 : Nat) (M : Mm) (x1 : Int32) (x2 : Int32) : OR := if x1 = 0 then obn (f_X7_againstBridging a0 M x2) fun q3 M1 => (some (q3, M1)) else if x1 = 1 then obn (f_X7_againstTrams a0 M x2) fun q6 M4 => (some (q6, M4)) else if x1 = 2 then obn (f_X7_againstOpening a0 M x2) fun q9 M7 => (some (q9, M7)) else if x1 = 3 then obn (f_X7_againstClosing a0 M x2) fun q12 M10 => (some (q12, M10)) else if x1 = 4 then obn (f_X7_againstTurningOff a0 M x2) fun q15 M13 => (some (q15, M13)) else if x1 = 5 then obn (f_X7_againstTurningOn a0 M x2) fun q18 M16 => (some (q18, M16)) else if x1 = 6 then obn (f_X7_againstEarthing a0 M x2) fun q21 M19 => (some (q21, M19)) else obn (f_X7_againstTakingEarth a0 M x2) fun q24 M22 => (some (q24, M22))
set_option maxHeartbeats 4000000 in
set_option maxRecDepth 100000 in
theorem c_X7_reasonAgainst {l : Launch} {w : Wp} {L : Ly} {a0 : Nat} {M : Mm} {x1 : Int32} {x2 : Int32} {R0 : Int32 × Mm} (h0 : LWires w L (a0)) (hf : f_X7_reasonAgainst a0 M x1 x2 = some R0) : CT l w L yX7_reasonAgainst cX7_reasonAgainst 3 (some .int) 4 [.ref a0, .int x1, .int x2] M R0 := by
  unfold f_X7_reasonAgainst at hf
  refine CT_of pn_X7 (Nat.le_of_ble_eq_true rfl) (fun E cx en => ?_)
  have cx : Ok w L E RX7 cX7_reasonAgainst 3 4 := cx
  show G l w L E M [(0, .ref a0), (1, .int x1), (2, .int x2)] 0 []
  refine g_iload_n (pc := 0) cx dX7_reasonAgainst_0 rfl 1 rfl ?_
  refine g_swk (pc := 1) (kx := 0) (off := 43) (tgt := 44) cx dX7_reasonAgainst_1 (by decide) (by decide) (by decide) (by decide) hf (fun hf => ?_) (fun n0 hf => ?_)
  · refine g_aload_n (pc := 44) cx dX7_reasonAgainst_44 rfl 0 rfl ?_
    refine g_iload_n (pc := 45) cx dX7_reasonAgainst_45 rfl 2 rfl ?_
    obtain ⟨q3, M1, hc2, hf⟩ := obn_some2 hf
    refine g_callVi (pc := 46) [.int x2] [] cx lk_X7_128 vw_X7 (LWires_o h0) (by decide) (c_X7_againstBridging h0 hc2) dX7_reasonAgainst_46 (Nat.le_of_ble_eq_true rfl) ?_
    exact g_iret (pc := 49) cx en dX7_reasonAgainst_49 rfl hf
  refine g_swk (pc := 1) (kx := 1) (off := 49) (tgt := 50) cx dX7_reasonAgainst_1 (by decide) (by decide) (by decide) (by decide) hf (fun hf => ?_) (fun n1 hf => ?_)
  · refine g_aload_n (pc := 50) cx dX7_reasonAgainst_50 rfl 0 rfl ?_
    refine g_iload_n (pc := 51) cx dX7_reasonAgainst_51 rfl 2 rfl ?_
    obtain ⟨q6, M4, hc5, hf⟩ := obn_some2 hf
    refine g_callVi (pc := 52) [.int x2] [] cx lk_X7_132 vw_X7 (LWires_o h0) (by decide) (c_X7_againstTrams h0 hc5) dX7_reasonAgainst_52 (Nat.le_of_ble_eq_true rfl) ?_
    exact g_iret (pc := 55) cx en dX7_reasonAgainst_55 rfl hf
  refine g_swk (pc := 1) (kx := 2) (off := 55) (tgt := 56) cx dX7_reasonAgainst_1 (by decide) (by decide) (by decide) (by decide) hf (fun hf => ?_) (fun n2 hf => ?_)
  · refine g_aload_n (pc := 56) cx dX7_reasonAgainst_56 rfl 0 rfl ?_
    refine g_iload_n (pc := 57) cx dX7_reasonAgainst_57 rfl 2 rfl ?_
    obtain ⟨q9, M7, hc8, hf⟩ := obn_some2 hf
    refine g_callVi (pc := 58) [.int x2] [] cx lk_X7_135 vw_X7 (LWires_o h0) (by decide) (c_X7_againstOpening h0 hc8) dX7_reasonAgainst_58 (Nat.le_of_ble_eq_true rfl) ?_
    exact g_iret (pc := 61) cx en dX7_reasonAgainst_61 rfl hf
  refine g_swk (pc := 1) (kx := 3) (off := 61) (tgt := 62) cx dX7_reasonAgainst_1 (by decide) (by decide) (by decide) (by decide) hf (fun hf => ?_) (fun n3 hf => ?_)
  · refine g_aload_n (pc := 62) cx dX7_reasonAgainst_62 rfl 0 rfl ?_
    refine g_iload_n (pc := 63) cx dX7_reasonAgainst_63 rfl 2 rfl ?_
    obtain ⟨q12, M10, hc11, hf⟩ := obn_some2 hf
    refine g_callVi (pc := 64) [.int x2] [] cx lk_X7_138 vw_X7 (LWires_o h0) (by decide) (c_X7_againstClosing h0 hc11) dX7_reasonAgainst_64 (Nat.le_of_ble_eq_true rfl) ?_
    exact g_iret (pc := 67) cx en dX7_reasonAgainst_67 rfl hf
  refine g_swk (pc := 1) (kx := 4) (off := 67) (tgt := 68) cx dX7_reasonAgainst_1 (by decide) (by decide) (by decide) (by decide) hf (fun hf => ?_) (fun n4 hf => ?_)
  · refine g_aload_n (pc := 68) cx dX7_reasonAgainst_68 rfl 0 rfl ?_
    refine g_iload_n (pc := 69) cx dX7_reasonAgainst_69 rfl 2 rfl ?_
    obtain ⟨q15, M13, hc14, hf⟩ := obn_some2 hf
    refine g_callVi (pc := 70) [.int x2] [] cx lk_X7_141 vw_X7 (LWires_o h0) (by decide) (c_X7_againstTurningOff h0 hc14) dX7_reasonAgainst_70 (Nat.le_of_ble_eq_true rfl) ?_
    exact g_iret (pc := 73) cx en dX7_reasonAgainst_73 rfl hf
  refine g_swk (pc := 1) (kx := 5) (off := 73) (tgt := 74) cx dX7_reasonAgainst_1 (by decide) (by decide) (by decide) (by decide) hf (fun hf => ?_) (fun n5 hf => ?_)
  · refine g_aload_n (pc := 74) cx dX7_reasonAgainst_74 rfl 0 rfl ?_
    refine g_iload_n (pc := 75) cx dX7_reasonAgainst_75 rfl 2 rfl ?_
    obtain ⟨q18, M16, hc17, hf⟩ := obn_some2 hf
    refine g_callVi (pc := 76) [.int x2] [] cx lk_X7_144 vw_X7 (LWires_o h0) (by decide) (c_X7_againstTurningOn h0 hc17) dX7_reasonAgainst_76 (Nat.le_of_ble_eq_true rfl) ?_
    exact g_iret (pc := 79) cx en dX7_reasonAgainst_79 rfl hf
  refine g_swk (pc := 1) (kx := 6) (off := 79) (tgt := 80) cx dX7_reasonAgainst_1 (by decide) (by decide) (by decide) (by decide) hf (fun hf => ?_) (fun n6 hf => ?_)
  · refine g_aload_n (pc := 80) cx dX7_reasonAgainst_80 rfl 0 rfl ?_
    refine g_iload_n (pc := 81) cx dX7_reasonAgainst_81 rfl 2 rfl ?_
    obtain ⟨q21, M19, hc20, hf⟩ := obn_some2 hf
    refine g_callVi (pc := 82) [.int x2] [] cx lk_X7_147 vw_X7 (LWires_o h0) (by decide) (c_X7_againstEarthing h0 hc20) dX7_reasonAgainst_82 (Nat.le_of_ble_eq_true rfl) ?_
    exact g_iret (pc := 85) cx en dX7_reasonAgainst_85 rfl hf
  refine g_swo (pc := 1) (tgt := 86) cx dX7_reasonAgainst_1 ?_ (by decide) ?_
  · have q0 := lv_neT n0 (a := 0) (by decide)
    have q1 := lv_neT n1 (a := 1) (by decide)
    have q2 := lv_neT n2 (a := 2) (by decide)
    have q3 := lv_neT n3 (a := 3) (by decide)
    have q4 := lv_neT n4 (a := 4) (by decide)
    have q5 := lv_neT n5 (a := 5) (by decide)
    have q6 := lv_neT n6 (a := 6) (by decide)
    omega
  · refine g_aload_n (pc := 86) cx dX7_reasonAgainst_86 rfl 0 rfl ?_
    refine g_iload_n (pc := 87) cx dX7_reasonAgainst_87 rfl 2 rfl ?_
    obtain ⟨q24, M22, hc23, hf⟩ := obn_some2 hf
    refine g_callVi (pc := 88) [.int x2] [] cx lk_X7_150 vw_X7 (LWires_o h0) (by decide) (c_X7_againstTakingEarth h0 hc23) dX7_reasonAgainst_88 (Nat.le_of_ble_eq_true rfl) ?_
    exact g_iret (pc := 91) cx en dX7_reasonAgainst_91 rfl hf
/-! X7_make -/
def b_X7_make_141 (a0 : Nat) (M : Mm) (x1 : Int32) (x2 : Int32) : OR := obn (f_X1_write (a0 + 16) M x1 x2 (M (a0 + 8) 0)) fun _ M1 => (some (0, M1))
def f_X7_make (a0 : Nat) (M : Mm) (x1 : Int32) (x2 : Int32) : OR := if x1 = 0 then ckd x2 10 (bnd (mst M ((a0 + 8) + 2) (ix x2) 1) fun M1 => b_X7_make_141 a0 M1 x1 x2) else if x1 = 1 then ckd x2 10 (bnd (mst M ((a0 + 8) + 2) (ix x2) 0) fun M2 => b_X7_make_141 a0 M2 x1 x2) else if x1 = 2 then obn (f_X2_setIsolator (a0 + 1) M x2 0) fun _ M3 => (b_X7_make_141 a0 M3 x1 x2) else if x1 = 3 then obn (f_X2_setIsolator (a0 + 1) M x2 1) fun _ M6 => (b_X7_make_141 a0 M6 x1 x2) else if x1 = 4 then obn (f_X2_setFeeder (a0 + 1) M x2 1) fun _ M9 => (b_X7_make_141 a0 M9 x1 x2) else if x1 = 5 then obn (f_X2_setFeeder (a0 + 1) M x2 2) fun _ M12 => (b_X7_make_141 a0 M12 x1 x2) else if x1 = 6 then ckd x2 10 (bnd (mst M ((a0 + 8) + 3) (ix x2) 1) fun M15 => b_X7_make_141 a0 M15 x1 x2) else ckd x2 10 (bnd (mst M ((a0 + 8) + 3) (ix x2) 0) fun M16 => b_X7_make_141 a0 M16 x1 x2)
set_option maxHeartbeats 4000000 in
set_option maxRecDepth 100000 in
theorem w_X7_make_141 {l : Launch} {w : Wp} {L : Ly} {E : Cx} {a0 : Nat} {x1 : Int32} {x2 : Int32} {R0 : Int32 × Mm} (cx : Ok w L E RX7 cX7_make 3 3) (en : En w L E none R0) (h0 : LWires w L (a0)) {M : Mm} (hf : b_X7_make_141 a0 M x1 x2 = some R0) : G l w L E M [(0, .ref a0), (1, .int x1), (2, .int x2)] 141 [] := by
  unfold b_X7_make_141 at hf
  refine g_aload_n (pc := 141) cx dX7_make_141 rfl 0 rfl ?_
  refine fg_X7_28 (pc := 142) cx dX7_make_142 h0 ?_
  refine g_iload_n (pc := 145) cx dX7_make_145 rfl 1 rfl ?_
  refine g_iload_n (pc := 146) cx dX7_make_146 rfl 2 rfl ?_
  refine g_aload_n (pc := 147) cx dX7_make_147 rfl 0 rfl ?_
  refine fg_X7_21 (pc := 148) cx dX7_make_148 h0 ?_
  refine fg_X7_182 (pc := 151) cx dX7_make_151 (LWires_service h0) ?_
  obtain ⟨q3, M1, hc2, hf⟩ := obn_some2 hf
  refine g_callVv (pc := 154) [.int x1, .int x2, .int (M (a0 + 8) 0)] [] cx lk_X7_185 vw_X1 (LLog_o (LWires_log h0)) (by decide) (c_X1_write (LWires_log h0) hc2) dX7_make_154 (Nat.le_of_ble_eq_true rfl) ?_
  exact g_vret (pc := 157) cx en dX7_make_157 hf
set_option maxHeartbeats 4000000 in
set_option maxRecDepth 100000 in
theorem c_X7_make {l : Launch} {w : Wp} {L : Ly} {a0 : Nat} {M : Mm} {x1 : Int32} {x2 : Int32} {R0 : Int32 × Mm} (h0 : LWires w L (a0)) (hf : f_X7_make a0 M x1 x2 = some R0) : CT l w L yX7_make cX7_make 3 none 3 [.ref a0, .int x1, .int x2] M R0 := by
  unfold f_X7_make at hf
  refine CT_of pn_X7 (Nat.le_of_ble_eq_true rfl) (fun E cx en => ?_)
  have cx : Ok w L E RX7 cX7_make 3 3 := cx
  show G l w L E M [(0, .ref a0), (1, .int x1), (2, .int x2)] 0 []
  refine g_iload_n (pc := 0) cx dX7_make_0 rfl 1 rfl ?_
  refine g_swk (pc := 1) (kx := 0) (off := 43) (tgt := 44) cx dX7_make_1 (by decide) (by decide) (by decide) (by decide) hf (fun hf => ?_) (fun n0 hf => ?_)
  · refine g_aload_n (pc := 44) cx dX7_make_44 rfl 0 rfl ?_
    refine fg_X7_21 (pc := 45) cx dX7_make_45 h0 ?_
    refine fg_X7_153 (pc := 48) cx dX7_make_48 (LWires_service h0) ?_
    refine g_iload_n (pc := 51) cx dX7_make_51 rfl 2 rfl ?_
    refine g_iconst (pc := 52) (v := 1) cx dX7_make_52 (by decide) ?_
    refine g_zast (pc := 53) cx (LService_bridged (LWires_service h0)) dX7_make_53 hf (fun M1 hf => ?_)
    refine g_goto (pc := 54) (tgt := 141) cx dX7_make_54 rfl ?_
    exact w_X7_make_141 cx en h0 hf
  refine g_swk (pc := 1) (kx := 1) (off := 56) (tgt := 57) cx dX7_make_1 (by decide) (by decide) (by decide) (by decide) hf (fun hf => ?_) (fun n1 hf => ?_)
  · refine g_aload_n (pc := 57) cx dX7_make_57 rfl 0 rfl ?_
    refine fg_X7_21 (pc := 58) cx dX7_make_58 h0 ?_
    refine fg_X7_153 (pc := 61) cx dX7_make_61 (LWires_service h0) ?_
    refine g_iload_n (pc := 64) cx dX7_make_64 rfl 2 rfl ?_
    refine g_iconst (pc := 65) (v := 0) cx dX7_make_65 (by decide) ?_
    refine g_zast (pc := 66) cx (LService_bridged (LWires_service h0)) dX7_make_66 hf (fun M2 hf => ?_)
    refine g_goto (pc := 67) (tgt := 141) cx dX7_make_67 rfl ?_
    exact w_X7_make_141 cx en h0 hf
  refine g_swk (pc := 1) (kx := 2) (off := 69) (tgt := 70) cx dX7_make_1 (by decide) (by decide) (by decide) (by decide) hf (fun hf => ?_) (fun n2 hf => ?_)
  · refine g_aload_n (pc := 70) cx dX7_make_70 rfl 0 rfl ?_
    refine fg_X7_12 (pc := 71) cx dX7_make_71 h0 ?_
    refine g_iload_n (pc := 74) cx dX7_make_74 rfl 2 rfl ?_
    refine g_iconst (pc := 75) (v := 0) cx dX7_make_75 (by decide) ?_
    obtain ⟨q5, M3, hc4, hf⟩ := obn_some2 hf
    refine g_callVv (pc := 76) [.int x2, .int 0] [] cx lk_X7_90 vw_X2 (LNet_o (LWires_net h0)) (by decide) (c_X2_setIsolator (LWires_net h0) hc4) dX7_make_76 (Nat.le_of_ble_eq_true rfl) ?_
    refine g_goto (pc := 79) (tgt := 141) cx dX7_make_79 rfl ?_
    exact w_X7_make_141 cx en h0 hf
  refine g_swk (pc := 1) (kx := 3) (off := 81) (tgt := 82) cx dX7_make_1 (by decide) (by decide) (by decide) (by decide) hf (fun hf => ?_) (fun n3 hf => ?_)
  · refine g_aload_n (pc := 82) cx dX7_make_82 rfl 0 rfl ?_
    refine fg_X7_12 (pc := 83) cx dX7_make_83 h0 ?_
    refine g_iload_n (pc := 86) cx dX7_make_86 rfl 2 rfl ?_
    refine g_iconst (pc := 87) (v := 1) cx dX7_make_87 (by decide) ?_
    obtain ⟨q8, M6, hc7, hf⟩ := obn_some2 hf
    refine g_callVv (pc := 88) [.int x2, .int 1] [] cx lk_X7_90 vw_X2 (LNet_o (LWires_net h0)) (by decide) (c_X2_setIsolator (LWires_net h0) hc7) dX7_make_88 (Nat.le_of_ble_eq_true rfl) ?_
    refine g_goto (pc := 91) (tgt := 141) cx dX7_make_91 rfl ?_
    exact w_X7_make_141 cx en h0 hf
  refine g_swk (pc := 1) (kx := 4) (off := 93) (tgt := 94) cx dX7_make_1 (by decide) (by decide) (by decide) (by decide) hf (fun hf => ?_) (fun n4 hf => ?_)
  · refine g_aload_n (pc := 94) cx dX7_make_94 rfl 0 rfl ?_
    refine fg_X7_12 (pc := 95) cx dX7_make_95 h0 ?_
    refine g_iload_n (pc := 98) cx dX7_make_98 rfl 2 rfl ?_
    refine g_iconst (pc := 99) (v := 1) cx dX7_make_99 (by decide) ?_
    obtain ⟨q11, M9, hc10, hf⟩ := obn_some2 hf
    refine g_callVv (pc := 100) [.int x2, .int 1] [] cx lk_X7_77 vw_X2 (LNet_o (LWires_net h0)) (by decide) (c_X2_setFeeder (LWires_net h0) hc10) dX7_make_100 (Nat.le_of_ble_eq_true rfl) ?_
    refine g_goto (pc := 103) (tgt := 141) cx dX7_make_103 rfl ?_
    exact w_X7_make_141 cx en h0 hf
  refine g_swk (pc := 1) (kx := 5) (off := 105) (tgt := 106) cx dX7_make_1 (by decide) (by decide) (by decide) (by decide) hf (fun hf => ?_) (fun n5 hf => ?_)
  · refine g_aload_n (pc := 106) cx dX7_make_106 rfl 0 rfl ?_
    refine fg_X7_12 (pc := 107) cx dX7_make_107 h0 ?_
    refine g_iload_n (pc := 110) cx dX7_make_110 rfl 2 rfl ?_
    refine g_iconst (pc := 111) (v := 2) cx dX7_make_111 (by decide) ?_
    obtain ⟨q14, M12, hc13, hf⟩ := obn_some2 hf
    refine g_callVv (pc := 112) [.int x2, .int 2] [] cx lk_X7_77 vw_X2 (LNet_o (LWires_net h0)) (by decide) (c_X2_setFeeder (LWires_net h0) hc13) dX7_make_112 (Nat.le_of_ble_eq_true rfl) ?_
    refine g_goto (pc := 115) (tgt := 141) cx dX7_make_115 rfl ?_
    exact w_X7_make_141 cx en h0 hf
  refine g_swk (pc := 1) (kx := 6) (off := 117) (tgt := 118) cx dX7_make_1 (by decide) (by decide) (by decide) (by decide) hf (fun hf => ?_) (fun n6 hf => ?_)
  · refine g_aload_n (pc := 118) cx dX7_make_118 rfl 0 rfl ?_
    refine fg_X7_21 (pc := 119) cx dX7_make_119 h0 ?_
    refine fg_X7_94 (pc := 122) cx dX7_make_122 (LWires_service h0) ?_
    refine g_iload_n (pc := 125) cx dX7_make_125 rfl 2 rfl ?_
    refine g_iconst (pc := 126) (v := 1) cx dX7_make_126 (by decide) ?_
    refine g_zast (pc := 127) cx (LService_earthed (LWires_service h0)) dX7_make_127 hf (fun M15 hf => ?_)
    refine g_goto (pc := 128) (tgt := 141) cx dX7_make_128 rfl ?_
    exact w_X7_make_141 cx en h0 hf
  refine g_swo (pc := 1) (tgt := 131) cx dX7_make_1 ?_ (by decide) ?_
  · have q0 := lv_neT n0 (a := 0) (by decide)
    have q1 := lv_neT n1 (a := 1) (by decide)
    have q2 := lv_neT n2 (a := 2) (by decide)
    have q3 := lv_neT n3 (a := 3) (by decide)
    have q4 := lv_neT n4 (a := 4) (by decide)
    have q5 := lv_neT n5 (a := 5) (by decide)
    have q6 := lv_neT n6 (a := 6) (by decide)
    omega
  · refine g_aload_n (pc := 131) cx dX7_make_131 rfl 0 rfl ?_
    refine fg_X7_21 (pc := 132) cx dX7_make_132 h0 ?_
    refine fg_X7_94 (pc := 135) cx dX7_make_135 (LWires_service h0) ?_
    refine g_iload_n (pc := 138) cx dX7_make_138 rfl 2 rfl ?_
    refine g_iconst (pc := 139) (v := 0) cx dX7_make_139 (by decide) ?_
    refine g_zast (pc := 140) cx (LService_earthed (LWires_service h0)) dX7_make_140 hf (fun M16 hf => ?_)
    exact w_X7_make_141 cx en h0 hf
