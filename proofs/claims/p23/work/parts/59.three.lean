/-! L_three_7 -/
def b_L_three_66 (X : Nat) (M : Mm) : OR := some (0, M)
def b_L_three_61 (X : Nat) (M : Mm) (s0 : Int32) : OR := if s0 = 0 then none else b_L_three_66 X M
def b_L_three_60 (X : Nat) (M : Mm) : OR := b_L_three_61 X M 0
def b_L_three_46 (X : Nat) (M : Mm) : OR := obn (f_X8_isolator X M 1 2) fun q3 M1 => (if q3 = 1 then b_L_three_61 X M1 1 else b_L_three_60 X M1)
def b_L_three_37 (X : Nat) (M : Mm) : OR := obn (f_X8_isolator X M 0 1) fun q3 M1 => (if q3 = 0 then b_L_three_46 X M1 else b_L_three_60 X M1)
def b_L_three_27 (X : Nat) (M : Mm) : OR := obn (f_X8_section X M 5 0) fun q3 M1 => (if q3 = 2 then b_L_three_37 X M1 else b_L_three_60 X M1)
def b_L_three_17 (X : Nat) (M : Mm) : OR := obn (f_X8_section X M 5 0) fun q3 M1 => (if q3 = 1 then b_L_three_27 X M1 else b_L_three_60 X M1)
def f_L_three_7 (X : Nat) (M : Mm) : OR := obn (f_X8_section X M 5 1) fun q3 M1 => (if q3 = 0 then b_L_three_17 X M1 else b_L_three_60 X M1)
set_option maxHeartbeats 4000000 in
set_option maxRecDepth 100000 in
theorem w_L_three_66 {l : Launch} {w : Wp} {L : Ly} {E : Cx} {X : Nat} {R0 : Int32 × Mm} (cx : Ok w L E RL cL_three 2 7) (en : En3 w L E X R0) (h1 : LTramWires w L X) {M : Mm} (hf : b_L_three_66 X M = some R0) : G l w L E M [(0, .ref X)] 66 [] := by
  unfold b_L_three_66 at hf
  refine g_aload_n (pc := 66) cx dL_three_66 rfl 0 rfl ?_
  refine g_goto (pc := 67) (tgt := 77) cx dL_three_67 rfl ?_
  exact g_aret3 (pc := 77) cx en dL_three_77 hf
set_option maxHeartbeats 4000000 in
set_option maxRecDepth 100000 in
theorem w_L_three_61 {l : Launch} {w : Wp} {L : Ly} {E : Cx} {X : Nat} {s0 : Int32} {R0 : Int32 × Mm} (cx : Ok w L E RL cL_three 2 7) (en : En3 w L E X R0) (h1 : LTramWires w L X) {M : Mm} (hf : b_L_three_61 X M s0 = some R0) : G l w L E M [(0, .ref X)] 61 [.int s0] := by
  unfold b_L_three_61 at hf
  refine g_istore_n (pc := 61) cx [(1, .int s0), (0, .ref X)] dL_three_61 rfl (by decide) rfl ?_
  refine g_iload_n (pc := 62) cx dL_three_62 rfl 0 rfl ?_
  refine g_if_eq (pc := 63) (tgt := 70) cx dL_three_63 rfl hf (fun hf => ?_) (fun hf => ?_)
  · cases hf
  · refine g_sub [1] [(0, .ref X)] rfl ?_
    exact w_L_three_66 cx en h1 hf
set_option maxHeartbeats 4000000 in
set_option maxRecDepth 100000 in
theorem w_L_three_60 {l : Launch} {w : Wp} {L : Ly} {E : Cx} {X : Nat} {R0 : Int32 × Mm} (cx : Ok w L E RL cL_three 2 7) (en : En3 w L E X R0) (h1 : LTramWires w L X) {M : Mm} (hf : b_L_three_60 X M = some R0) : G l w L E M [(0, .ref X)] 60 [] := by
  unfold b_L_three_60 at hf
  refine g_iconst (pc := 60) (v := 0) cx dL_three_60 (by decide) ?_
  exact w_L_three_61 cx en h1 hf
set_option maxHeartbeats 4000000 in
set_option maxRecDepth 100000 in
theorem w_L_three_46 {l : Launch} {w : Wp} {L : Ly} {E : Cx} {X : Nat} {R0 : Int32 × Mm} (cx : Ok w L E RL cL_three 2 7) (en : En3 w L E X R0) (h1 : LTramWires w L X) {M : Mm} (hf : b_L_three_46 X M = some R0) : G l w L E M [(0, .ref X)] 46 [] := by
  unfold b_L_three_46 at hf
  refine g_aload_n (pc := 46) cx dL_three_46 rfl 0 rfl ?_
  refine g_iconst (pc := 47) (v := 1) cx dL_three_47 (by decide) ?_
  refine g_iconst (pc := 48) (v := 2) cx dL_three_48 (by decide) ?_
  obtain ⟨q3, M1, hc2, hf⟩ := obn_some2 hf
  refine g_callVi (pc := 49) [.int 1, .int 2] [] cx lk_L_51 vw_X8 (LTramWires_o h1) (by decide) (c_X8_isolator h1 hc2) dL_three_49 (Nat.le_of_ble_eq_true rfl) ?_
  refine g_iconst (pc := 52) (v := 1) cx dL_three_52 (by decide) ?_
  refine g_icmp_ne (pc := 53) (tgt := 60) cx dL_three_53 rfl hf (fun hf => ?_) (fun hf => ?_)
  · refine g_iconst (pc := 56) (v := 1) cx dL_three_56 (by decide) ?_
    refine g_goto (pc := 57) (tgt := 61) cx dL_three_57 rfl ?_
    exact w_L_three_61 cx en h1 hf
  · exact w_L_three_60 cx en h1 hf
set_option maxHeartbeats 4000000 in
set_option maxRecDepth 100000 in
theorem w_L_three_37 {l : Launch} {w : Wp} {L : Ly} {E : Cx} {X : Nat} {R0 : Int32 × Mm} (cx : Ok w L E RL cL_three 2 7) (en : En3 w L E X R0) (h1 : LTramWires w L X) {M : Mm} (hf : b_L_three_37 X M = some R0) : G l w L E M [(0, .ref X)] 37 [] := by
  unfold b_L_three_37 at hf
  refine g_aload_n (pc := 37) cx dL_three_37 rfl 0 rfl ?_
  refine g_iconst (pc := 38) (v := 0) cx dL_three_38 (by decide) ?_
  refine g_iconst (pc := 39) (v := 1) cx dL_three_39 (by decide) ?_
  obtain ⟨q3, M1, hc2, hf⟩ := obn_some2 hf
  refine g_callVi (pc := 40) [.int 0, .int 1] [] cx lk_L_51 vw_X8 (LTramWires_o h1) (by decide) (c_X8_isolator h1 hc2) dL_three_40 (Nat.le_of_ble_eq_true rfl) ?_
  refine g_if_ne (pc := 43) (tgt := 60) cx dL_three_43 rfl hf (fun hf => ?_) (fun hf => ?_)
  · exact w_L_three_46 cx en h1 hf
  · exact w_L_three_60 cx en h1 hf
set_option maxHeartbeats 4000000 in
set_option maxRecDepth 100000 in
theorem w_L_three_27 {l : Launch} {w : Wp} {L : Ly} {E : Cx} {X : Nat} {R0 : Int32 × Mm} (cx : Ok w L E RL cL_three 2 7) (en : En3 w L E X R0) (h1 : LTramWires w L X) {M : Mm} (hf : b_L_three_27 X M = some R0) : G l w L E M [(0, .ref X)] 27 [] := by
  unfold b_L_three_27 at hf
  refine g_aload_n (pc := 27) cx dL_three_27 rfl 0 rfl ?_
  refine g_iconst (pc := 28) (v := 5) cx dL_three_28 (by decide) ?_
  refine g_iconst (pc := 29) (v := 0) cx dL_three_29 (by decide) ?_
  obtain ⟨q3, M1, hc2, hf⟩ := obn_some2 hf
  refine g_callVi (pc := 30) [.int 5, .int 0] [] cx lk_L_68 vw_X8 (LTramWires_o h1) (by decide) (c_X8_section h1 hc2) dL_three_30 (Nat.le_of_ble_eq_true rfl) ?_
  refine g_iconst (pc := 33) (v := 2) cx dL_three_33 (by decide) ?_
  refine g_icmp_ne (pc := 34) (tgt := 60) cx dL_three_34 rfl hf (fun hf => ?_) (fun hf => ?_)
  · exact w_L_three_37 cx en h1 hf
  · exact w_L_three_60 cx en h1 hf
set_option maxHeartbeats 4000000 in
set_option maxRecDepth 100000 in
theorem w_L_three_17 {l : Launch} {w : Wp} {L : Ly} {E : Cx} {X : Nat} {R0 : Int32 × Mm} (cx : Ok w L E RL cL_three 2 7) (en : En3 w L E X R0) (h1 : LTramWires w L X) {M : Mm} (hf : b_L_three_17 X M = some R0) : G l w L E M [(0, .ref X)] 17 [] := by
  unfold b_L_three_17 at hf
  refine g_aload_n (pc := 17) cx dL_three_17 rfl 0 rfl ?_
  refine g_iconst (pc := 18) (v := 5) cx dL_three_18 (by decide) ?_
  refine g_iconst (pc := 19) (v := 0) cx dL_three_19 (by decide) ?_
  obtain ⟨q3, M1, hc2, hf⟩ := obn_some2 hf
  refine g_callVi (pc := 20) [.int 5, .int 0] [] cx lk_L_68 vw_X8 (LTramWires_o h1) (by decide) (c_X8_section h1 hc2) dL_three_20 (Nat.le_of_ble_eq_true rfl) ?_
  refine g_iconst (pc := 23) (v := 1) cx dL_three_23 (by decide) ?_
  refine g_icmp_ne (pc := 24) (tgt := 60) cx dL_three_24 rfl hf (fun hf => ?_) (fun hf => ?_)
  · exact w_L_three_27 cx en h1 hf
  · exact w_L_three_60 cx en h1 hf
set_option maxHeartbeats 4000000 in
set_option maxRecDepth 100000 in
theorem c_L_three_7 {l : Launch} {w : Wp} {L : Ly} {E : Cx} {X : Nat} {R0 : Int32 × Mm} (cx : Ok w L E RL cL_three 2 7) (en : En3 w L E X R0) (h1 : LTramWires w L X) {M : Mm} (hf : f_L_three_7 X M  = some R0) : G l w L E M [] 7 [.ref X] := by
  unfold f_L_three_7 at hf
  refine g_astore_n (pc := 7) cx [(0, .ref X)] dL_three_7 rfl (by decide) rfl ?_
  refine g_aload_n (pc := 8) cx dL_three_8 rfl 0 rfl ?_
  refine g_iconst (pc := 9) (v := 5) cx dL_three_9 (by decide) ?_
  refine g_iconst (pc := 10) (v := 1) cx dL_three_10 (by decide) ?_
  obtain ⟨q3, M1, hc2, hf⟩ := obn_some2 hf
  refine g_callVi (pc := 11) [.int 5, .int 1] [] cx lk_L_68 vw_X8 (LTramWires_o h1) (by decide) (c_X8_section h1 hc2) dL_three_11 (Nat.le_of_ble_eq_true rfl) ?_
  refine g_if_ne (pc := 14) (tgt := 60) cx dL_three_14 rfl hf (fun hf => ?_) (fun hf => ?_)
  · exact w_L_three_17 cx en h1 hf
  · exact w_L_three_60 cx en h1 hf
