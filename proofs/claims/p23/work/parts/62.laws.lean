/-! L_law_19 -/
def f_L_law_19 (b X N : Nat) (xs : Nat → Int32) (rc27 : Mm → OR) (M : Mm) : OR := obn (f_L_refused X M) fun q3 M1 => (if q3 = 0 then some (0, M1) else rc27 M1 )
set_option maxHeartbeats 4000000 in
set_option maxRecDepth 100000 in
theorem c_L_law_19 {l : Launch} {w : Wp} {L : Ly} {E : Cx} {b X N : Nat} {xs : Nat → Int32} {rc27 : Mm → OR} {R0 : Int32 × Mm} (cx : Ok w L E RL cL_law 9 9) (en : EnL E b R0) (h1 : LTramWires w L X) (sc : Sc E b N xs) (hLb : L b = none) (hrc27 : ∀ (M : Mm), rc27 M = some R0 → G l w L E M [(0, .ref b)] 27 []) {M : Mm} (hf : f_L_law_19 b X N xs rc27 M  = some R0) : G l w L E M [(0, .ref b)] 19 [.ref X] := by
  unfold f_L_law_19 at hf
  obtain ⟨q3, M1, hc2, hf⟩ := obn_some2 hf
  refine g_callSi (pc := 19) [.ref X] [] cx lk_L_174 (by decide) (c_L_refused h1 hc2) dL_law_19 (Nat.le_of_ble_eq_true rfl) ?_
  refine g_if_ne (pc := 22) (tgt := 27) cx dL_law_22 rfl hf (fun hf => ?_) (fun hf => ?_)
  · refine g_iconst (pc := 25) (v := 0) cx dL_law_25 (by decide) ?_
    exact g_lawret (pc := 26) cx en dL_law_26 hf
  · exact hrc27 _ hf

/-! L_law_34 -/
def b_Lw_34_77 (b X N : Nat) (xs : Nat → Int32) (rc215 : Mm → OR) (rc37 : Mm → Int32 → OR) (M : Mm) (x2 : Int32) (s1 : Int32) (s2 : Int32) : OR := obn (f_X8_section X M s1 s2) fun q3 M1 => (if q3 = x2 then rc37 M1 (x2 + 1) else some (0, M1))
def b_Lw_34_43 (b X N : Nat) (xs : Nat → Int32) (rc215 : Mm → OR) (rc37 : Mm → Int32 → OR) (M : Mm) (x2 : Int32) : OR := obn (f_L_take b N xs M x2) fun q3 M1 => (obn (f_L_part M1 q3 9) fun q6 M4 => (if x2 < 2 then b_Lw_34_77 b X N xs rc215 rc37 M4 x2 (1 + q6) 1 else obn (f_L_take b N xs M4 (10 + x2)) fun q9 M7 => (obn (f_L_part M7 q9 2) fun q12 M10 => (b_Lw_34_77 b X N xs rc215 rc37 M10 x2 (1 + q6) q12))))
def b_Lw_34_134 (b X N : Nat) (xs : Nat → Int32) (rc215 : Mm → OR) (rc128 : Mm → Int32 → OR) (M : Mm) (x2 : Int32) : OR := obn (f_L_take b N xs M (20 + x2)) fun q3 M1 => (obn (f_L_part M1 q3 10) fun q6 M4 => (obn (f_L_take b N xs M4 (40 + x2)) fun q9 M7 => (obn (f_L_part M7 q9 9) fun q12 M10 => (obn (f_X8_isolator X M10 q6 (jrem ((q6 + 1) + q12) 10)) fun q15 M13 => (if q15 = x2 then rc128 M13 (x2 + 1) else some (0, M13))))))
def b_Lw_34_213 (b X N : Nat) (xs : Nat → Int32) (rc215 : Mm → OR) (M : Mm) : OR := some (0, M)
def b_Lw_34_206 (b X N : Nat) (xs : Nat → Int32) (rc215 : Mm → OR) (M : Mm) : OR := obn (f_L_refused X M) fun q3 M1 => (if q3 = 0 then b_Lw_34_213 b X N xs rc215 M1 else rc215 M1 )
def b_Lw_34_196 (b X N : Nat) (xs : Nat → Int32) (rc215 : Mm → OR) (M : Mm) : OR := obn (f_X8_isolator X M 0 0) fun q3 M1 => (if q3 = (-1) then b_Lw_34_206 b X N xs rc215 M1 else b_Lw_34_213 b X N xs rc215 M1)
def l_Lw_34_128 (b X N : Nat) (xs : Nat → Int32) (rc215 : Mm → OR) : Nat → Mm → Int32 → OR
  | 0, _, _ => none
  | k + 1, M, x2 => if x2 < 16 then b_Lw_34_134 b X N xs rc215 (l_Lw_34_128 b X N xs rc215 k) M x2 else obn (f_X8_isolator X M 0 1) fun q3 M1 => (if q3 = (-3) then b_Lw_34_196 b X N xs rc215 M1 else b_Lw_34_213 b X N xs rc215 M1)
def b_Lw_34_124 (b X N : Nat) (xs : Nat → Int32) (rc215 : Mm → OR) (M : Mm) : OR := some (0, M)
def b_Lw_34_113 (b X N : Nat) (xs : Nat → Int32) (rc215 : Mm → OR) (M : Mm) : OR := obn (f_X8_pool X M 40) fun q3 M1 => (if q3 = 40 then l_Lw_34_128 b X N xs rc215 FU M1 0 else b_Lw_34_124 b X N xs rc215 M1)
def b_Lw_34_103 (b X N : Nat) (xs : Nat → Int32) (rc215 : Mm → OR) (M : Mm) : OR := obn (f_X8_section X M 0 0) fun q3 M1 => (if q3 = (-1) then b_Lw_34_113 b X N xs rc215 M1 else b_Lw_34_124 b X N xs rc215 M1)
def l_Lw_34_37 (b X N : Nat) (xs : Nat → Int32) (rc215 : Mm → OR) : Nat → Mm → Int32 → OR
  | 0, _, _ => none
  | k + 1, M, x2 => if x2 < 10 then b_Lw_34_43 b X N xs rc215 (l_Lw_34_37 b X N xs rc215 k) M x2 else obn (f_X8_section X M 1 0) fun q3 M1 => (if q3 = (-3) then b_Lw_34_103 b X N xs rc215 M1 else b_Lw_34_124 b X N xs rc215 M1)
def f_L_law_34 (b X N : Nat) (xs : Nat → Int32) (rc215 : Mm → OR) (M : Mm) : OR := l_Lw_34_37 b X N xs rc215 FU M 0
set_option maxHeartbeats 4000000 in
set_option maxRecDepth 100000 in
theorem w_Lw_34_77 {l : Launch} {w : Wp} {L : Ly} {E : Cx} {b X N : Nat} {xs : Nat → Int32} {rc215 : Mm → OR} {rc37 : Mm → Int32 → OR} {x2 : Int32} {s1 : Int32} {s2 : Int32} {R0 : Int32 × Mm} (cx : Ok w L E RL cL_law 9 9) (en : EnL E b R0) (h1 : LTramWires w L X) (sc : Sc E b N xs) (hLb : L b = none) (hrc215 : ∀ (M : Mm), rc215 M = some R0 → G l w L E M [(0, .ref b), (1, .ref X)] 215 []) (hrc37 : ∀ (M : Mm) (x2 : Int32), rc37 M x2 = some R0 → G l w L E M [(0, .ref b), (1, .ref X), (2, .int x2)] 37 []) {M : Mm} (hf : b_Lw_34_77 b X N xs rc215 rc37 M x2 s1 s2 = some R0) : G l w L E M [(0, .ref b), (1, .ref X), (2, .int x2)] 77 [.int s2, .int s1, .ref X] := by
  unfold b_Lw_34_77 at hf
  obtain ⟨q3, M1, hc2, hf⟩ := obn_some2 hf
  refine g_callVi (pc := 77) [.int s1, .int s2] [] cx lk_L_68 vw_X8 (LTramWires_o h1) (by decide) (c_X8_section h1 hc2) dL_law_77 (Nat.le_of_ble_eq_true rfl) ?_
  refine g_iload_n (pc := 80) cx dL_law_80 rfl 2 rfl ?_
  refine g_icmp_eq (pc := 81) (tgt := 86) cx dL_law_81 rfl hf (fun hf => ?_) (fun hf => ?_)
  · refine g_iinc (pc := 86) cx [(2, .int (x2 + 1)), (0, .ref b), (1, .ref X)] dL_law_86 2 rfl rfl (by decide) rfl ?_
    refine g_goto (pc := 89) (tgt := 37) cx dL_law_89 rfl ?_
    refine g_sub [1, 2, 0] [(0, .ref b), (1, .ref X), (2, .int (x2 + 1))] rfl ?_
    exact hrc37 _ _ hf
  · refine g_iconst (pc := 84) (v := 0) cx dL_law_84 (by decide) ?_
    exact g_lawret (pc := 85) cx en dL_law_85 hf
set_option maxHeartbeats 4000000 in
set_option maxRecDepth 100000 in
theorem w_Lw_34_43 {l : Launch} {w : Wp} {L : Ly} {E : Cx} {b X N : Nat} {xs : Nat → Int32} {rc215 : Mm → OR} {rc37 : Mm → Int32 → OR} {x2 : Int32} {R0 : Int32 × Mm} (cx : Ok w L E RL cL_law 9 9) (en : EnL E b R0) (h1 : LTramWires w L X) (sc : Sc E b N xs) (hLb : L b = none) (hrc215 : ∀ (M : Mm), rc215 M = some R0 → G l w L E M [(0, .ref b), (1, .ref X)] 215 []) (hrc37 : ∀ (M : Mm) (x2 : Int32), rc37 M x2 = some R0 → G l w L E M [(0, .ref b), (1, .ref X), (2, .int x2)] 37 []) {M : Mm} (hf : b_Lw_34_43 b X N xs rc215 rc37 M x2 = some R0) : G l w L E M [(0, .ref b), (1, .ref X), (2, .int x2)] 43 [] := by
  unfold b_Lw_34_43 at hf
  refine g_aload_n (pc := 43) cx dL_law_43 rfl 1 rfl ?_
  refine g_iconst (pc := 44) (v := 1) cx dL_law_44 (by decide) ?_
  refine g_aload_n (pc := 45) cx dL_law_45 rfl 0 rfl ?_
  refine g_iload_n (pc := 46) cx dL_law_46 rfl 2 rfl ?_
  obtain ⟨q3, M1, hc2, hf⟩ := obn_some2 hf
  refine g_callSiS (pc := 47) [.ref b, .int x2] [.int 1, .ref X] cx sc lk_L_177 (by decide) (c_L_take hLb hc2) dL_law_47 (Nat.le_of_ble_eq_true rfl) ?_
  refine g_bipush (pc := 50) (v := 9) cx dL_law_50 (by decide) ?_
  obtain ⟨q6, M4, hc5, hf⟩ := obn_some2 hf
  refine g_callSi (pc := 52) [.int q3, .int 9] [.int 1, .ref X] cx lk_L_181 (by decide) (c_L_part hc5) dL_law_52 (Nat.le_of_ble_eq_true rfl) ?_
  refine g_iadd (pc := 55) cx dL_law_55 ?_
  refine g_iload_n (pc := 56) cx dL_law_56 rfl 2 rfl ?_
  refine g_iconst (pc := 57) (v := 2) cx dL_law_57 (by decide) ?_
  refine g_icmp_ge (pc := 58) (tgt := 65) cx dL_law_58 rfl hf (fun hf => ?_) (fun hf => ?_)
  · refine g_iconst (pc := 61) (v := 1) cx dL_law_61 (by decide) ?_
    refine g_goto (pc := 62) (tgt := 77) cx dL_law_62 rfl ?_
    exact w_Lw_34_77 cx en h1 sc hLb hrc215 hrc37 hf
  · refine g_aload_n (pc := 65) cx dL_law_65 rfl 0 rfl ?_
    refine g_bipush (pc := 66) (v := 10) cx dL_law_66 (by decide) ?_
    refine g_iload_n (pc := 68) cx dL_law_68 rfl 2 rfl ?_
    refine g_iadd (pc := 69) cx dL_law_69 ?_
    obtain ⟨q9, M7, hc8, hf⟩ := obn_some2 hf
    refine g_callSiS (pc := 70) [.ref b, .int (10 + x2)] [.int (1 + q6), .ref X] cx sc lk_L_177 (by decide) (c_L_take hLb hc8) dL_law_70 (Nat.le_of_ble_eq_true rfl) ?_
    refine g_iconst (pc := 73) (v := 2) cx dL_law_73 (by decide) ?_
    obtain ⟨q12, M10, hc11, hf⟩ := obn_some2 hf
    refine g_callSi (pc := 74) [.int q9, .int 2] [.int (1 + q6), .ref X] cx lk_L_181 (by decide) (c_L_part hc11) dL_law_74 (Nat.le_of_ble_eq_true rfl) ?_
    exact w_Lw_34_77 cx en h1 sc hLb hrc215 hrc37 hf
set_option maxHeartbeats 4000000 in
set_option maxRecDepth 100000 in
theorem w_Lw_34_134 {l : Launch} {w : Wp} {L : Ly} {E : Cx} {b X N : Nat} {xs : Nat → Int32} {rc215 : Mm → OR} {rc128 : Mm → Int32 → OR} {x2 : Int32} {R0 : Int32 × Mm} (cx : Ok w L E RL cL_law 9 9) (en : EnL E b R0) (h1 : LTramWires w L X) (sc : Sc E b N xs) (hLb : L b = none) (hrc215 : ∀ (M : Mm), rc215 M = some R0 → G l w L E M [(0, .ref b), (1, .ref X)] 215 []) (hrc128 : ∀ (M : Mm) (x2 : Int32), rc128 M x2 = some R0 → G l w L E M [(0, .ref b), (1, .ref X), (2, .int x2)] 128 []) {M : Mm} (hf : b_Lw_34_134 b X N xs rc215 rc128 M x2 = some R0) : G l w L E M [(0, .ref b), (1, .ref X), (2, .int x2)] 134 [] := by
  unfold b_Lw_34_134 at hf
  refine g_aload_n (pc := 134) cx dL_law_134 rfl 0 rfl ?_
  refine g_bipush (pc := 135) (v := 20) cx dL_law_135 (by decide) ?_
  refine g_iload_n (pc := 137) cx dL_law_137 rfl 2 rfl ?_
  refine g_iadd (pc := 138) cx dL_law_138 ?_
  obtain ⟨q3, M1, hc2, hf⟩ := obn_some2 hf
  refine g_callSiS (pc := 139) [.ref b, .int (20 + x2)] [] cx sc lk_L_177 (by decide) (c_L_take hLb hc2) dL_law_139 (Nat.le_of_ble_eq_true rfl) ?_
  refine g_bipush (pc := 142) (v := 10) cx dL_law_142 (by decide) ?_
  obtain ⟨q6, M4, hc5, hf⟩ := obn_some2 hf
  refine g_callSi (pc := 144) [.int q3, .int 10] [] cx lk_L_181 (by decide) (c_L_part hc5) dL_law_144 (Nat.le_of_ble_eq_true rfl) ?_
  refine g_istore_n (pc := 147) cx [(3, .int q6), (0, .ref b), (1, .ref X), (2, .int x2)] dL_law_147 rfl (by decide) rfl ?_
  refine g_aload_n (pc := 148) cx dL_law_148 rfl 2 rfl ?_
  refine g_iload_n (pc := 149) cx dL_law_149 rfl 0 rfl ?_
  refine g_iload_n (pc := 150) cx dL_law_150 rfl 0 rfl ?_
  refine g_iconst (pc := 151) (v := 1) cx dL_law_151 (by decide) ?_
  refine g_iadd (pc := 152) cx dL_law_152 ?_
  refine g_aload_n (pc := 153) cx dL_law_153 rfl 1 rfl ?_
  refine g_bipush (pc := 154) (v := 40) cx dL_law_154 (by decide) ?_
  refine g_iload_n (pc := 156) cx dL_law_156 rfl 3 rfl ?_
  refine g_iadd (pc := 157) cx dL_law_157 ?_
  obtain ⟨q9, M7, hc8, hf⟩ := obn_some2 hf
  refine g_callSiS (pc := 158) [.ref b, .int (40 + x2)] [.int (q6 + 1), .int q6, .ref X] cx sc lk_L_177 (by decide) (c_L_take hLb hc8) dL_law_158 (Nat.le_of_ble_eq_true rfl) ?_
  refine g_bipush (pc := 161) (v := 9) cx dL_law_161 (by decide) ?_
  obtain ⟨q12, M10, hc11, hf⟩ := obn_some2 hf
  refine g_callSi (pc := 163) [.int q9, .int 9] [.int (q6 + 1), .int q6, .ref X] cx lk_L_181 (by decide) (c_L_part hc11) dL_law_163 (Nat.le_of_ble_eq_true rfl) ?_
  refine g_iadd (pc := 166) cx dL_law_166 ?_
  refine g_bipush (pc := 167) (v := 10) cx dL_law_167 (by decide) ?_
  refine g_jrem (pc := 169) cx dL_law_169 (by decide) ?_
  obtain ⟨q15, M13, hc14, hf⟩ := obn_some2 hf
  refine g_callVi (pc := 170) [.int q6, .int (jrem ((q6 + 1) + q12) 10)] [] cx lk_L_51 vw_X8 (LTramWires_o h1) (by decide) (c_X8_isolator h1 hc14) dL_law_170 (Nat.le_of_ble_eq_true rfl) ?_
  refine g_iload_n (pc := 173) cx dL_law_173 rfl 3 rfl ?_
  refine g_icmp_eq (pc := 174) (tgt := 179) cx dL_law_174 rfl hf (fun hf => ?_) (fun hf => ?_)
  · refine g_iinc (pc := 179) cx [(2, .int (x2 + 1)), (3, .int q6), (0, .ref b), (1, .ref X)] dL_law_179 3 rfl rfl (by decide) rfl ?_
    refine g_goto (pc := 182) (tgt := 128) cx dL_law_182 rfl ?_
    refine g_sub [2, 3, 0] [(0, .ref b), (1, .ref X), (2, .int (x2 + 1))] rfl ?_
    exact hrc128 _ _ hf
  · refine g_iconst (pc := 177) (v := 0) cx dL_law_177 (by decide) ?_
    exact g_lawret (pc := 178) cx en dL_law_178 hf
set_option maxHeartbeats 4000000 in
set_option maxRecDepth 100000 in
theorem w_Lw_34_213 {l : Launch} {w : Wp} {L : Ly} {E : Cx} {b X N : Nat} {xs : Nat → Int32} {rc215 : Mm → OR} {R0 : Int32 × Mm} (cx : Ok w L E RL cL_law 9 9) (en : EnL E b R0) (h1 : LTramWires w L X) (sc : Sc E b N xs) (hLb : L b = none) (hrc215 : ∀ (M : Mm), rc215 M = some R0 → G l w L E M [(0, .ref b), (1, .ref X)] 215 []) {M : Mm} (hf : b_Lw_34_213 b X N xs rc215 M = some R0) : G l w L E M [] 213 [] := by
  unfold b_Lw_34_213 at hf
  refine g_iconst (pc := 213) (v := 0) cx dL_law_213 (by decide) ?_
  exact g_lawret (pc := 214) cx en dL_law_214 hf
set_option maxHeartbeats 4000000 in
set_option maxRecDepth 100000 in
theorem w_Lw_34_206 {l : Launch} {w : Wp} {L : Ly} {E : Cx} {b X N : Nat} {xs : Nat → Int32} {rc215 : Mm → OR} {R0 : Int32 × Mm} (cx : Ok w L E RL cL_law 9 9) (en : EnL E b R0) (h1 : LTramWires w L X) (sc : Sc E b N xs) (hLb : L b = none) (hrc215 : ∀ (M : Mm), rc215 M = some R0 → G l w L E M [(0, .ref b), (1, .ref X)] 215 []) {M : Mm} (hf : b_Lw_34_206 b X N xs rc215 M = some R0) : G l w L E M [(0, .ref b), (1, .ref X)] 206 [] := by
  unfold b_Lw_34_206 at hf
  refine g_aload_n (pc := 206) cx dL_law_206 rfl 1 rfl ?_
  obtain ⟨q3, M1, hc2, hf⟩ := obn_some2 hf
  refine g_callSi (pc := 207) [.ref X] [] cx lk_L_174 (by decide) (c_L_refused h1 hc2) dL_law_207 (Nat.le_of_ble_eq_true rfl) ?_
  refine g_if_ne (pc := 210) (tgt := 215) cx dL_law_210 rfl hf (fun hf => ?_) (fun hf => ?_)
  · refine g_sub [] [] rfl ?_
    exact w_Lw_34_213 cx en h1 sc hLb hrc215 hf
  · exact hrc215 _ hf
set_option maxHeartbeats 4000000 in
set_option maxRecDepth 100000 in
theorem w_Lw_34_196 {l : Launch} {w : Wp} {L : Ly} {E : Cx} {b X N : Nat} {xs : Nat → Int32} {rc215 : Mm → OR} {R0 : Int32 × Mm} (cx : Ok w L E RL cL_law 9 9) (en : EnL E b R0) (h1 : LTramWires w L X) (sc : Sc E b N xs) (hLb : L b = none) (hrc215 : ∀ (M : Mm), rc215 M = some R0 → G l w L E M [(0, .ref b), (1, .ref X)] 215 []) {M : Mm} (hf : b_Lw_34_196 b X N xs rc215 M = some R0) : G l w L E M [(0, .ref b), (1, .ref X)] 196 [] := by
  unfold b_Lw_34_196 at hf
  refine g_aload_n (pc := 196) cx dL_law_196 rfl 1 rfl ?_
  refine g_iconst (pc := 197) (v := 0) cx dL_law_197 (by decide) ?_
  refine g_iconst (pc := 198) (v := 0) cx dL_law_198 (by decide) ?_
  obtain ⟨q3, M1, hc2, hf⟩ := obn_some2 hf
  refine g_callVi (pc := 199) [.int 0, .int 0] [] cx lk_L_51 vw_X8 (LTramWires_o h1) (by decide) (c_X8_isolator h1 hc2) dL_law_199 (Nat.le_of_ble_eq_true rfl) ?_
  refine g_iconst (pc := 202) (v := (-1)) cx dL_law_202 (by decide) ?_
  refine g_icmp_ne (pc := 203) (tgt := 213) cx dL_law_203 rfl hf (fun hf => ?_) (fun hf => ?_)
  · exact w_Lw_34_206 cx en h1 sc hLb hrc215 hf
  · refine g_sub [] [] rfl ?_
    exact w_Lw_34_213 cx en h1 sc hLb hrc215 hf
set_option maxHeartbeats 4000000 in
set_option maxRecDepth 100000 in
theorem w_Lw_34_128 {l : Launch} {w : Wp} {L : Ly} {E : Cx} {b X N : Nat} {xs : Nat → Int32} {rc215 : Mm → OR} {R0 : Int32 × Mm} (cx : Ok w L E RL cL_law 9 9) (en : EnL E b R0) (h1 : LTramWires w L X) (sc : Sc E b N xs) (hLb : L b = none) (hrc215 : ∀ (M : Mm), rc215 M = some R0 → G l w L E M [(0, .ref b), (1, .ref X)] 215 []) : ∀ (k : Nat) {M : Mm} {x2 : Int32}, l_Lw_34_128 b X N xs rc215 k M x2 = some R0 → G l w L E M [(0, .ref b), (1, .ref X), (2, .int x2)] 128 [] := by
  intro k
  induction k with
  | zero =>
    intro M x2 hf
    exact absurd hf (by simp [l_Lw_34_128])
  | succ k ih =>
    intro M x2 hf
    unfold l_Lw_34_128 at hf
    refine g_iload_n (pc := 128) cx dL_law_128 rfl 2 rfl ?_
    refine g_bipush (pc := 129) (v := 16) cx dL_law_129 (by decide) ?_
    refine g_icmp_ge (pc := 131) (tgt := 185) cx dL_law_131 rfl hf (fun hf => ?_) (fun hf => ?_)
    · exact w_Lw_34_134 cx en h1 sc hLb hrc215 (fun _ _ hf => ih hf) hf
    · refine g_aload_n (pc := 185) cx dL_law_185 rfl 1 rfl ?_
      refine g_iconst (pc := 186) (v := 0) cx dL_law_186 (by decide) ?_
      refine g_iconst (pc := 187) (v := 1) cx dL_law_187 (by decide) ?_
      obtain ⟨q3, M1, hc2, hf⟩ := obn_some2 hf
      refine g_callVi (pc := 188) [.int 0, .int 1] [] cx lk_L_51 vw_X8 (LTramWires_o h1) (by decide) (c_X8_isolator h1 hc2) dL_law_188 (Nat.le_of_ble_eq_true rfl) ?_
      refine g_bipush (pc := 191) (v := (-3)) cx dL_law_191 (by decide) ?_
      refine g_icmp_ne (pc := 193) (tgt := 213) cx dL_law_193 rfl hf (fun hf => ?_) (fun hf => ?_)
      · refine g_sub [0, 1] [(0, .ref b), (1, .ref X)] rfl ?_
        exact w_Lw_34_196 cx en h1 sc hLb hrc215 hf
      · refine g_sub [] [] rfl ?_
        exact w_Lw_34_213 cx en h1 sc hLb hrc215 hf
set_option maxHeartbeats 4000000 in
set_option maxRecDepth 100000 in
theorem w_Lw_34_124 {l : Launch} {w : Wp} {L : Ly} {E : Cx} {b X N : Nat} {xs : Nat → Int32} {rc215 : Mm → OR} {R0 : Int32 × Mm} (cx : Ok w L E RL cL_law 9 9) (en : EnL E b R0) (h1 : LTramWires w L X) (sc : Sc E b N xs) (hLb : L b = none) (hrc215 : ∀ (M : Mm), rc215 M = some R0 → G l w L E M [(0, .ref b), (1, .ref X)] 215 []) {M : Mm} (hf : b_Lw_34_124 b X N xs rc215 M = some R0) : G l w L E M [] 124 [] := by
  unfold b_Lw_34_124 at hf
  refine g_iconst (pc := 124) (v := 0) cx dL_law_124 (by decide) ?_
  exact g_lawret (pc := 125) cx en dL_law_125 hf
set_option maxHeartbeats 4000000 in
set_option maxRecDepth 100000 in
theorem w_Lw_34_113 {l : Launch} {w : Wp} {L : Ly} {E : Cx} {b X N : Nat} {xs : Nat → Int32} {rc215 : Mm → OR} {R0 : Int32 × Mm} (cx : Ok w L E RL cL_law 9 9) (en : EnL E b R0) (h1 : LTramWires w L X) (sc : Sc E b N xs) (hLb : L b = none) (hrc215 : ∀ (M : Mm), rc215 M = some R0 → G l w L E M [(0, .ref b), (1, .ref X)] 215 []) {M : Mm} (hf : b_Lw_34_113 b X N xs rc215 M = some R0) : G l w L E M [(0, .ref b), (1, .ref X)] 113 [] := by
  unfold b_Lw_34_113 at hf
  refine g_aload_n (pc := 113) cx dL_law_113 rfl 1 rfl ?_
  refine g_bipush (pc := 114) (v := 40) cx dL_law_114 (by decide) ?_
  obtain ⟨q3, M1, hc2, hf⟩ := obn_some2 hf
  refine g_callVi (pc := 116) [.int 40] [] cx lk_L_71 vw_X8 (LTramWires_o h1) (by decide) (c_X8_pool h1 hc2) dL_law_116 (Nat.le_of_ble_eq_true rfl) ?_
  refine g_bipush (pc := 119) (v := 40) cx dL_law_119 (by decide) ?_
  refine g_icmp_eq (pc := 121) (tgt := 126) cx dL_law_121 rfl hf (fun hf => ?_) (fun hf => ?_)
  · refine g_iconst (pc := 126) (v := 0) cx dL_law_126 (by decide) ?_
    refine g_istore_n (pc := 127) cx [(2, .int 0), (0, .ref b), (1, .ref X)] dL_law_127 rfl (by decide) rfl ?_
    refine g_sub [1, 2, 0] [(0, .ref b), (1, .ref X), (2, .int 0)] rfl ?_
    exact w_Lw_34_128 cx en h1 sc hLb hrc215 FU hf
  · refine g_sub [] [] rfl ?_
    exact w_Lw_34_124 cx en h1 sc hLb hrc215 hf
set_option maxHeartbeats 4000000 in
set_option maxRecDepth 100000 in
theorem w_Lw_34_103 {l : Launch} {w : Wp} {L : Ly} {E : Cx} {b X N : Nat} {xs : Nat → Int32} {rc215 : Mm → OR} {R0 : Int32 × Mm} (cx : Ok w L E RL cL_law 9 9) (en : EnL E b R0) (h1 : LTramWires w L X) (sc : Sc E b N xs) (hLb : L b = none) (hrc215 : ∀ (M : Mm), rc215 M = some R0 → G l w L E M [(0, .ref b), (1, .ref X)] 215 []) {M : Mm} (hf : b_Lw_34_103 b X N xs rc215 M = some R0) : G l w L E M [(0, .ref b), (1, .ref X)] 103 [] := by
  unfold b_Lw_34_103 at hf
  refine g_aload_n (pc := 103) cx dL_law_103 rfl 1 rfl ?_
  refine g_iconst (pc := 104) (v := 0) cx dL_law_104 (by decide) ?_
  refine g_iconst (pc := 105) (v := 0) cx dL_law_105 (by decide) ?_
  obtain ⟨q3, M1, hc2, hf⟩ := obn_some2 hf
  refine g_callVi (pc := 106) [.int 0, .int 0] [] cx lk_L_68 vw_X8 (LTramWires_o h1) (by decide) (c_X8_section h1 hc2) dL_law_106 (Nat.le_of_ble_eq_true rfl) ?_
  refine g_iconst (pc := 109) (v := (-1)) cx dL_law_109 (by decide) ?_
  refine g_icmp_ne (pc := 110) (tgt := 124) cx dL_law_110 rfl hf (fun hf => ?_) (fun hf => ?_)
  · exact w_Lw_34_113 cx en h1 sc hLb hrc215 hf
  · refine g_sub [] [] rfl ?_
    exact w_Lw_34_124 cx en h1 sc hLb hrc215 hf
set_option maxHeartbeats 4000000 in
set_option maxRecDepth 100000 in
theorem w_Lw_34_37 {l : Launch} {w : Wp} {L : Ly} {E : Cx} {b X N : Nat} {xs : Nat → Int32} {rc215 : Mm → OR} {R0 : Int32 × Mm} (cx : Ok w L E RL cL_law 9 9) (en : EnL E b R0) (h1 : LTramWires w L X) (sc : Sc E b N xs) (hLb : L b = none) (hrc215 : ∀ (M : Mm), rc215 M = some R0 → G l w L E M [(0, .ref b), (1, .ref X)] 215 []) : ∀ (k : Nat) {M : Mm} {x2 : Int32}, l_Lw_34_37 b X N xs rc215 k M x2 = some R0 → G l w L E M [(0, .ref b), (1, .ref X), (2, .int x2)] 37 [] := by
  intro k
  induction k with
  | zero =>
    intro M x2 hf
    exact absurd hf (by simp [l_Lw_34_37])
  | succ k ih =>
    intro M x2 hf
    unfold l_Lw_34_37 at hf
    refine g_iload_n (pc := 37) cx dL_law_37 rfl 2 rfl ?_
    refine g_bipush (pc := 38) (v := 10) cx dL_law_38 (by decide) ?_
    refine g_icmp_ge (pc := 40) (tgt := 92) cx dL_law_40 rfl hf (fun hf => ?_) (fun hf => ?_)
    · exact w_Lw_34_43 cx en h1 sc hLb hrc215 (fun _ _ hf => ih hf) hf
    · refine g_aload_n (pc := 92) cx dL_law_92 rfl 1 rfl ?_
      refine g_iconst (pc := 93) (v := 1) cx dL_law_93 (by decide) ?_
      refine g_iconst (pc := 94) (v := 0) cx dL_law_94 (by decide) ?_
      obtain ⟨q3, M1, hc2, hf⟩ := obn_some2 hf
      refine g_callVi (pc := 95) [.int 1, .int 0] [] cx lk_L_68 vw_X8 (LTramWires_o h1) (by decide) (c_X8_section h1 hc2) dL_law_95 (Nat.le_of_ble_eq_true rfl) ?_
      refine g_bipush (pc := 98) (v := (-3)) cx dL_law_98 (by decide) ?_
      refine g_icmp_ne (pc := 100) (tgt := 124) cx dL_law_100 rfl hf (fun hf => ?_) (fun hf => ?_)
      · refine g_sub [0, 1] [(0, .ref b), (1, .ref X)] rfl ?_
        exact w_Lw_34_103 cx en h1 sc hLb hrc215 hf
      · refine g_sub [] [] rfl ?_
        exact w_Lw_34_124 cx en h1 sc hLb hrc215 hf
set_option maxHeartbeats 4000000 in
set_option maxRecDepth 100000 in
theorem c_L_law_34 {l : Launch} {w : Wp} {L : Ly} {E : Cx} {b X N : Nat} {xs : Nat → Int32} {rc215 : Mm → OR} {R0 : Int32 × Mm} (cx : Ok w L E RL cL_law 9 9) (en : EnL E b R0) (h1 : LTramWires w L X) (sc : Sc E b N xs) (hLb : L b = none) (hrc215 : ∀ (M : Mm), rc215 M = some R0 → G l w L E M [(0, .ref b), (1, .ref X)] 215 []) {M : Mm} (hf : f_L_law_34 b X N xs rc215 M  = some R0) : G l w L E M [(0, .ref b)] 34 [.ref X] := by
  unfold f_L_law_34 at hf
  refine g_astore_n (pc := 34) cx [(1, .ref X), (0, .ref b)] dL_law_34 rfl (by decide) rfl ?_
  refine g_iconst (pc := 35) (v := 0) cx dL_law_35 (by decide) ?_
  refine g_istore_n (pc := 36) cx [(2, .int 0), (1, .ref X), (0, .ref b)] dL_law_36 rfl (by decide) rfl ?_
  refine g_sub [2, 1, 0] [(0, .ref b), (1, .ref X), (2, .int 0)] rfl ?_
  exact w_Lw_34_37 cx en h1 sc hLb hrc215 FU hf

/-! L_law_219 -/
def b_Lw_219_480 (b X N Y : Nat) (xs : Nat → Int32) (rc573 : Mm → OR) (rc225 : Mm → Int32 → Int32 → OR) (M : Mm) (x3 : Int32) (x4 : Int32) : OR := rc225 M x3 (x4 + 1)
def b_Lw_219_467 (b X N Y : Nat) (xs : Nat → Int32) (rc573 : Mm → OR) (rc225 : Mm → Int32 → Int32 → OR) (M : Mm) (x3 : Int32) (x4 : Int32) : OR := obn (f_L_state X M) fun q3 M1 => (ckd x3 48 (if (jcmp q3 (jat M1 Y (ix x3))) = 0 then b_Lw_219_480 b X N Y xs rc573 rc225 M1 x3 x4 else some (0, M1)))
def b_Lw_219_460 (b X N Y : Nat) (xs : Nat → Int32) (rc573 : Mm → OR) (rc225 : Mm → Int32 → Int32 → OR) (M : Mm) (x4 : Int32) (x8 : Int32) (s0 : Int32) (s1 : Int32) : OR := bnd (s0 + s1) fun v1 => if x8 < 0 then b_Lw_219_467 b X N Y xs rc573 rc225 M v1 x4 else b_Lw_219_480 b X N Y xs rc573 rc225 M v1 x4
def b_Lw_219_447 (b X N Y : Nat) (xs : Nat → Int32) (rc573 : Mm → OR) (rc225 : Mm → Int32 → Int32 → OR) (M : Mm) (x3 : Int32) (x4 : Int32) (s0 : Int32) : OR := if s0 < 0 then b_Lw_219_460 b X N Y xs rc573 rc225 M x4 s0 x3 0 else b_Lw_219_460 b X N Y xs rc573 rc225 M x4 s0 x3 1
def b_Lw_219_294 (b X N Y : Nat) (xs : Nat → Int32) (rc573 : Mm → OR) (rc225 : Mm → Int32 → Int32 → OR) (M : Mm) (x3 : Int32) (x4 : Int32) (x6 : Int32) (x7 : Int32) : OR := obn (f_X8_step X M x6 x7) fun q3 M1 => (b_Lw_219_447 b X N Y xs rc573 rc225 M1 x3 x4 q3)
def b_Lw_219_312 (b X N Y : Nat) (xs : Nat → Int32) (rc573 : Mm → OR) (rc225 : Mm → Int32 → Int32 → OR) (M : Mm) (x3 : Int32) (x4 : Int32) (x5 : Int32) (x7 : Int32) : OR := obn (f_L_part M (x5 >>> (8 &&& 31)) 51) fun q3 M1 => (obn (f_X8_count X M1 8) fun q6 M4 => (obn (f_L_part M4 (x5 >>> (6 &&& 31)) 100) fun q9 M7 => (obn (f_X8_enter X M7 x7 q3 (q6 + q9)) fun q12 M10 => (b_Lw_219_447 b X N Y xs rc573 rc225 M10 x3 x4 q12))))
def b_Lw_219_355 (b X N Y : Nat) (xs : Nat → Int32) (rc573 : Mm → OR) (rc225 : Mm → Int32 → Int32 → OR) (M : Mm) (x3 : Int32) (x4 : Int32) (x5 : Int32) (x7 : Int32) : OR := obn (f_L_part M (x5 >>> (8 &&& 31)) 20) fun q3 M1 => (obn (f_X8_leave X M1 x7 q3) fun q6 M4 => (b_Lw_219_447 b X N Y xs rc573 rc225 M4 x3 x4 q6))
def b_Lw_219_381 (b X N Y : Nat) (xs : Nat → Int32) (rc573 : Mm → OR) (rc225 : Mm → Int32 → Int32 → OR) (M : Mm) (x3 : Int32) (x4 : Int32) (x7 : Int32) : OR := obn (f_X8_fetch X M x7) fun q3 M1 => (b_Lw_219_447 b X N Y xs rc573 rc225 M1 x3 x4 q3)
def b_Lw_219_397 (b X N Y : Nat) (xs : Nat → Int32) (rc573 : Mm → OR) (rc225 : Mm → Int32 → Int32 → OR) (M : Mm) (x3 : Int32) (x4 : Int32) (x5 : Int32) : OR := obn (f_L_part M (x5 >>> (8 &&& 31)) 100) fun q3 M1 => (obn (f_X8_pass X M1 (1 + q3)) fun q6 M4 => (b_Lw_219_447 b X N Y xs rc573 rc225 M4 x3 x4 q6))
def b_Lw_219_423 (b X N Y : Nat) (xs : Nat → Int32) (rc573 : Mm → OR) (rc225 : Mm → Int32 → Int32 → OR) (M : Mm) (x3 : Int32) (x4 : Int32) (x5 : Int32) : OR := obn (f_L_part M (x5 >>> (8 &&& 31)) 41) fun q3 M1 => (obn (f_X8_pool X M1 q3) fun q6 M4 => (b_Lw_219_447 b X N Y xs rc573 rc225 M4 x3 x4 q6))
def b_Lw_219_275 (b X N Y : Nat) (xs : Nat → Int32) (rc573 : Mm → OR) (rc225 : Mm → Int32 → Int32 → OR) (M : Mm) (x3 : Int32) (x4 : Int32) (x5 : Int32) (x6 : Int32) (s0 : Int32) (s1 : Int32) : OR := obn (f_L_part M s0 s1) fun q3 M1 => (obn (f_L_state X M1) fun q6 M4 => (ckd x3 48 (bnd (jst M4 Y (ix x3) q6) fun M7 => if x6 < 8 then b_Lw_219_294 b X N Y xs rc573 rc225 M7 x3 x4 x6 q3 else if x6 = 8 then b_Lw_219_312 b X N Y xs rc573 rc225 M7 x3 x4 x5 q3 else if x6 = 9 then b_Lw_219_355 b X N Y xs rc573 rc225 M7 x3 x4 x5 q3 else if x6 = 10 then b_Lw_219_381 b X N Y xs rc573 rc225 M7 x3 x4 q3 else if x6 = 11 then b_Lw_219_397 b X N Y xs rc573 rc225 M7 x3 x4 x5 else if x6 = 12 then b_Lw_219_423 b X N Y xs rc573 rc225 M7 x3 x4 x5 else obn (f_X8_step X M7 0 q3) fun q10 M8 => (b_Lw_219_447 b X N Y xs rc573 rc225 M8 x3 x4 q10))))
def b_Lw_219_268 (b X N Y : Nat) (xs : Nat → Int32) (rc573 : Mm → OR) (rc225 : Mm → Int32 → Int32 → OR) (M : Mm) (x3 : Int32) (x4 : Int32) (x5 : Int32) (x6 : Int32) (s0 : Int32) : OR := b_Lw_219_275 b X N Y xs rc573 rc225 M x3 x4 x5 x6 s0 16
def b_Lw_219_232 (b X N Y : Nat) (xs : Nat → Int32) (rc573 : Mm → OR) (rc225 : Mm → Int32 → Int32 → OR) (M : Mm) (x3 : Int32) (x4 : Int32) : OR := obn (f_L_take b N xs M (60 + x4)) fun q3 M1 => (obn (f_L_part M1 q3 14) fun q6 M4 => (if q6 = 2 then b_Lw_219_268 b X N Y xs rc573 rc225 M4 x3 x4 q3 q6 (q3 >>> (4 &&& 31)) else if q6 = 3 then b_Lw_219_268 b X N Y xs rc573 rc225 M4 x3 x4 q3 q6 (q3 >>> (4 &&& 31)) else b_Lw_219_275 b X N Y xs rc573 rc225 M4 x3 x4 q3 q6 (q3 >>> (4 &&& 31)) 10))
def b_Lw_219_562 (b X N Y : Nat) (xs : Nat → Int32) (rc573 : Mm → OR) (M : Mm) : OR := obn (f_X8_undo X M) fun q3 M1 => (if q3 = (-2) then rc573 M1  else some (0, M1))
def b_Lw_219_557 (b X N Y : Nat) (xs : Nat → Int32) (rc573 : Mm → OR) (M : Mm) (x3 : Int32) : OR := if 4 < x3 then b_Lw_219_562 b X N Y xs rc573 M else rc573 M 
def b_Lw_219_549 (b X N Y : Nat) (xs : Nat → Int32) (rc573 : Mm → OR) (M : Mm) : OR := some (0, M)
def b_Lw_219_551 (b X N Y : Nat) (xs : Nat → Int32) (rc573 : Mm → OR) (rc498 : Mm → Int32 → OR) (M : Mm) (x3 : Int32) (x4 : Int32) : OR := rc498 M (x4 + 1)
def b_Lw_219_521 (b X N Y : Nat) (xs : Nat → Int32) (rc573 : Mm → OR) (rc498 : Mm → Int32 → OR) (M : Mm) (x3 : Int32) (x4 : Int32) (x5 : Int32) : OR := obn (f_L_state X M) fun q3 M1 => (ckd (x3 - x4) 48 (if (jcmp q3 (jat M1 Y (ix (x3 - x4)))) = 0 then if 4 < x3 then if x5 = (5 - x4) then b_Lw_219_551 b X N Y xs rc573 rc498 M1 x3 x4 else b_Lw_219_549 b X N Y xs rc573 M1 else b_Lw_219_551 b X N Y xs rc573 rc498 M1 x3 x4 else b_Lw_219_549 b X N Y xs rc573 M1))
def b_Lw_219_510 (b X N Y : Nat) (xs : Nat → Int32) (rc573 : Mm → OR) (rc498 : Mm → Int32 → OR) (M : Mm) (x3 : Int32) (x4 : Int32) : OR := obn (f_X8_undo X M) fun q3 M1 => (if q3 < 0 then b_Lw_219_549 b X N Y xs rc573 M1 else b_Lw_219_521 b X N Y xs rc573 rc498 M1 x3 x4 q3)
def l_Lw_219_498 (b X N Y : Nat) (xs : Nat → Int32) (rc573 : Mm → OR) (x3 : Int32) : Nat → Mm → Int32 → OR
  | 0, _, _ => none
  | k + 1, M, x4 => if 5 < x4 then b_Lw_219_557 b X N Y xs rc573 M x3 else if x3 < x4 then b_Lw_219_557 b X N Y xs rc573 M x3 else b_Lw_219_510 b X N Y xs rc573 (l_Lw_219_498 b X N Y xs rc573 x3 k) M x3 x4
def l_Lw_219_225 (b X N Y : Nat) (xs : Nat → Int32) (rc573 : Mm → OR) : Nat → Mm → Int32 → Int32 → OR
  | 0, _, _, _ => none
  | k + 1, M, x3, x4 => if x4 < 40 then b_Lw_219_232 b X N Y xs rc573 (l_Lw_219_225 b X N Y xs rc573 k) M x3 x4 else obn (f_L_refused X M) fun q3 M1 => (if q3 = 0 then some (0, M1) else l_Lw_219_498 b X N Y xs rc573 x3 FU M1 1)
def f_L_law_219 (b X N Y : Nat) (xs : Nat → Int32) (rc573 : Mm → OR) (M : Mm) : OR := l_Lw_219_225 b X N Y xs rc573 FU M 0 0
set_option maxHeartbeats 4000000 in
set_option maxRecDepth 100000 in
theorem w_Lw_219_480 {l : Launch} {w : Wp} {L : Ly} {E : Cx} {b X N Y : Nat} {xs : Nat → Int32} {rc573 : Mm → OR} {rc225 : Mm → Int32 → Int32 → OR} {x3 : Int32} {x4 : Int32} {R0 : Int32 × Mm} (cx : Ok w L E RL cL_law 9 9) (en : EnL E b R0) {cJ : ClassId} (hJ : ArrOfT (xS E) cJ .long) (h1 : LTramWires w L X) (sc : Sc E b N xs) (hLb : L b = none) (hY : L Y = some (gJ cJ 48)) (hrc573 : ∀ (M : Mm), rc573 M = some R0 → G l w L E M [] 573 []) (hrc225 : ∀ (M : Mm) (x3 : Int32) (x4 : Int32), rc225 M x3 x4 = some R0 → G l w L E M [(0, .ref b), (1, .ref X), (2, .ref Y), (3, .int x3), (4, .int x4)] 225 []) {M : Mm} (hf : b_Lw_219_480 b X N Y xs rc573 rc225 M x3 x4 = some R0) : G l w L E M [(0, .ref b), (1, .ref X), (2, .ref Y), (3, .int x3), (4, .int x4)] 480 [] := by
  unfold b_Lw_219_480 at hf
  refine g_iinc (pc := 480) cx [(4, .int (x4 + 1)), (0, .ref b), (1, .ref X), (2, .ref Y), (3, .int x3)] dL_law_480 4 rfl rfl (by decide) rfl ?_
  refine g_goto (pc := 483) (tgt := 225) cx dL_law_483 rfl ?_
  refine g_sub [1, 2, 3, 4, 0] [(0, .ref b), (1, .ref X), (2, .ref Y), (3, .int x3), (4, .int (x4 + 1))] rfl ?_
  exact hrc225 _ _ _ hf
set_option maxHeartbeats 4000000 in
set_option maxRecDepth 100000 in
theorem w_Lw_219_467 {l : Launch} {w : Wp} {L : Ly} {E : Cx} {b X N Y : Nat} {xs : Nat → Int32} {rc573 : Mm → OR} {rc225 : Mm → Int32 → Int32 → OR} {x3 : Int32} {x4 : Int32} {R0 : Int32 × Mm} (cx : Ok w L E RL cL_law 9 9) (en : EnL E b R0) {cJ : ClassId} (hJ : ArrOfT (xS E) cJ .long) (h1 : LTramWires w L X) (sc : Sc E b N xs) (hLb : L b = none) (hY : L Y = some (gJ cJ 48)) (hrc573 : ∀ (M : Mm), rc573 M = some R0 → G l w L E M [] 573 []) (hrc225 : ∀ (M : Mm) (x3 : Int32) (x4 : Int32), rc225 M x3 x4 = some R0 → G l w L E M [(0, .ref b), (1, .ref X), (2, .ref Y), (3, .int x3), (4, .int x4)] 225 []) {M : Mm} (hf : b_Lw_219_467 b X N Y xs rc573 rc225 M x3 x4 = some R0) : G l w L E M [(0, .ref b), (1, .ref X), (2, .ref Y), (3, .int x3), (4, .int x4)] 467 [] := by
  unfold b_Lw_219_467 at hf
  refine g_aload_n (pc := 467) cx dL_law_467 rfl 1 rfl ?_
  obtain ⟨q3, M1, hc2, hf⟩ := obn_some2 hf
  refine g_callSj (pc := 468) [.ref X] [] cx lk_L_60 (by decide) (c_L_state h1 hc2) dL_law_468 (Nat.le_of_ble_eq_true rfl) ?_
  refine g_aload_n (pc := 471) cx dL_law_471 rfl 2 rfl ?_
  refine g_iload_n (pc := 472) cx dL_law_472 rfl 3 rfl ?_
  refine g_lald (pc := 473) cx hJ hY dL_law_473 hf (fun hf => ?_)
  refine g_lcmp (pc := 474) cx dL_law_474 ?_
  refine g_if_eq (pc := 475) (tgt := 480) cx dL_law_475 rfl hf (fun hf => ?_) (fun hf => ?_)
  · exact w_Lw_219_480 cx en hJ h1 sc hLb hY hrc573 hrc225 hf
  · refine g_iconst (pc := 478) (v := 0) cx dL_law_478 (by decide) ?_
    exact g_lawret (pc := 479) cx en dL_law_479 hf
set_option maxHeartbeats 4000000 in
set_option maxRecDepth 100000 in
theorem w_Lw_219_460 {l : Launch} {w : Wp} {L : Ly} {E : Cx} {b X N Y : Nat} {xs : Nat → Int32} {rc573 : Mm → OR} {rc225 : Mm → Int32 → Int32 → OR} {x4 : Int32} {x8 : Int32} {s0 : Int32} {s1 : Int32} {R0 : Int32 × Mm} (cx : Ok w L E RL cL_law 9 9) (en : EnL E b R0) {cJ : ClassId} (hJ : ArrOfT (xS E) cJ .long) (h1 : LTramWires w L X) (sc : Sc E b N xs) (hLb : L b = none) (hY : L Y = some (gJ cJ 48)) (hrc573 : ∀ (M : Mm), rc573 M = some R0 → G l w L E M [] 573 []) (hrc225 : ∀ (M : Mm) (x3 : Int32) (x4 : Int32), rc225 M x3 x4 = some R0 → G l w L E M [(0, .ref b), (1, .ref X), (2, .ref Y), (3, .int x3), (4, .int x4)] 225 []) {M : Mm} (hf : b_Lw_219_460 b X N Y xs rc573 rc225 M x4 x8 s0 s1 = some R0) : G l w L E M [(0, .ref b), (1, .ref X), (2, .ref Y), (4, .int x4), (8, .int x8)] 460 [.int s1, .int s0] := by
  unfold b_Lw_219_460 at hf
  refine g_iadd (pc := 460) cx dL_law_460 ?_
  refine g_nm hf (fun v1 hf => ?_)
  refine g_istore_n (pc := 461) cx [(3, .int v1), (0, .ref b), (1, .ref X), (2, .ref Y), (4, .int x4), (8, .int x8)] dL_law_461 rfl (by decide) rfl ?_
  refine g_iload (pc := 462) cx dL_law_462 5 rfl ?_
  refine g_if_ge (pc := 464) (tgt := 480) cx dL_law_464 rfl hf (fun hf => ?_) (fun hf => ?_)
  · refine g_sub [1, 2, 3, 0, 4] [(0, .ref b), (1, .ref X), (2, .ref Y), (3, .int v1), (4, .int x4)] rfl ?_
    exact w_Lw_219_467 cx en hJ h1 sc hLb hY hrc573 hrc225 hf
  · refine g_sub [1, 2, 3, 0, 4] [(0, .ref b), (1, .ref X), (2, .ref Y), (3, .int v1), (4, .int x4)] rfl ?_
    exact w_Lw_219_480 cx en hJ h1 sc hLb hY hrc573 hrc225 hf
set_option maxHeartbeats 4000000 in
set_option maxRecDepth 100000 in
theorem w_Lw_219_447 {l : Launch} {w : Wp} {L : Ly} {E : Cx} {b X N Y : Nat} {xs : Nat → Int32} {rc573 : Mm → OR} {rc225 : Mm → Int32 → Int32 → OR} {x3 : Int32} {x4 : Int32} {s0 : Int32} {R0 : Int32 × Mm} (cx : Ok w L E RL cL_law 9 9) (en : EnL E b R0) {cJ : ClassId} (hJ : ArrOfT (xS E) cJ .long) (h1 : LTramWires w L X) (sc : Sc E b N xs) (hLb : L b = none) (hY : L Y = some (gJ cJ 48)) (hrc573 : ∀ (M : Mm), rc573 M = some R0 → G l w L E M [] 573 []) (hrc225 : ∀ (M : Mm) (x3 : Int32) (x4 : Int32), rc225 M x3 x4 = some R0 → G l w L E M [(0, .ref b), (1, .ref X), (2, .ref Y), (3, .int x3), (4, .int x4)] 225 []) {M : Mm} (hf : b_Lw_219_447 b X N Y xs rc573 rc225 M x3 x4 s0 = some R0) : G l w L E M [(0, .ref b), (1, .ref X), (2, .ref Y), (3, .int x3), (4, .int x4)] 447 [.int s0] := by
  unfold b_Lw_219_447 at hf
  refine g_istore (pc := 447) cx [(8, .int s0), (0, .ref b), (1, .ref X), (2, .ref Y), (3, .int x3), (4, .int x4)] dL_law_447 (by decide) rfl ?_
  refine g_iload_n (pc := 449) cx dL_law_449 rfl 4 rfl ?_
  refine g_iload (pc := 450) cx dL_law_450 0 rfl ?_
  refine g_if_lt (pc := 452) (tgt := 459) cx dL_law_452 rfl hf (fun hf => ?_) (fun hf => ?_)
  · refine g_iconst (pc := 459) (v := 0) cx dL_law_459 (by decide) ?_
    refine g_sub [1, 2, 3, 5, 0] [(0, .ref b), (1, .ref X), (2, .ref Y), (4, .int x4), (8, .int s0)] rfl ?_
    exact w_Lw_219_460 cx en hJ h1 sc hLb hY hrc573 hrc225 hf
  · refine g_iconst (pc := 455) (v := 1) cx dL_law_455 (by decide) ?_
    refine g_goto (pc := 456) (tgt := 460) cx dL_law_456 rfl ?_
    refine g_sub [1, 2, 3, 5, 0] [(0, .ref b), (1, .ref X), (2, .ref Y), (4, .int x4), (8, .int s0)] rfl ?_
    exact w_Lw_219_460 cx en hJ h1 sc hLb hY hrc573 hrc225 hf
set_option maxHeartbeats 4000000 in
set_option maxRecDepth 100000 in
theorem w_Lw_219_294 {l : Launch} {w : Wp} {L : Ly} {E : Cx} {b X N Y : Nat} {xs : Nat → Int32} {rc573 : Mm → OR} {rc225 : Mm → Int32 → Int32 → OR} {x3 : Int32} {x4 : Int32} {x6 : Int32} {x7 : Int32} {R0 : Int32 × Mm} (cx : Ok w L E RL cL_law 9 9) (en : EnL E b R0) {cJ : ClassId} (hJ : ArrOfT (xS E) cJ .long) (h1 : LTramWires w L X) (sc : Sc E b N xs) (hLb : L b = none) (hY : L Y = some (gJ cJ 48)) (hrc573 : ∀ (M : Mm), rc573 M = some R0 → G l w L E M [] 573 []) (hrc225 : ∀ (M : Mm) (x3 : Int32) (x4 : Int32), rc225 M x3 x4 = some R0 → G l w L E M [(0, .ref b), (1, .ref X), (2, .ref Y), (3, .int x3), (4, .int x4)] 225 []) {M : Mm} (hf : b_Lw_219_294 b X N Y xs rc573 rc225 M x3 x4 x6 x7 = some R0) : G l w L E M [(0, .ref b), (1, .ref X), (2, .ref Y), (3, .int x3), (4, .int x4), (6, .int x6), (7, .int x7)] 294 [] := by
  unfold b_Lw_219_294 at hf
  refine g_aload_n (pc := 294) cx dL_law_294 rfl 1 rfl ?_
  refine g_iload (pc := 295) cx dL_law_295 5 rfl ?_
  refine g_iload (pc := 297) cx dL_law_297 6 rfl ?_
  obtain ⟨q3, M1, hc2, hf⟩ := obn_some2 hf
  refine g_callVi (pc := 299) [.int x6, .int x7] [] cx lk_L_57 vw_X8 (LTramWires_o h1) (by decide) (c_X8_step h1 hc2) dL_law_299 (Nat.le_of_ble_eq_true rfl) ?_
  refine g_goto (pc := 302) (tgt := 447) cx dL_law_302 rfl ?_
  refine g_sub [0, 1, 2, 3, 4] [(0, .ref b), (1, .ref X), (2, .ref Y), (3, .int x3), (4, .int x4)] rfl ?_
  exact w_Lw_219_447 cx en hJ h1 sc hLb hY hrc573 hrc225 hf
set_option maxHeartbeats 4000000 in
set_option maxRecDepth 100000 in
theorem w_Lw_219_312 {l : Launch} {w : Wp} {L : Ly} {E : Cx} {b X N Y : Nat} {xs : Nat → Int32} {rc573 : Mm → OR} {rc225 : Mm → Int32 → Int32 → OR} {x3 : Int32} {x4 : Int32} {x5 : Int32} {x7 : Int32} {R0 : Int32 × Mm} (cx : Ok w L E RL cL_law 9 9) (en : EnL E b R0) {cJ : ClassId} (hJ : ArrOfT (xS E) cJ .long) (h1 : LTramWires w L X) (sc : Sc E b N xs) (hLb : L b = none) (hY : L Y = some (gJ cJ 48)) (hrc573 : ∀ (M : Mm), rc573 M = some R0 → G l w L E M [] 573 []) (hrc225 : ∀ (M : Mm) (x3 : Int32) (x4 : Int32), rc225 M x3 x4 = some R0 → G l w L E M [(0, .ref b), (1, .ref X), (2, .ref Y), (3, .int x3), (4, .int x4)] 225 []) {M : Mm} (hf : b_Lw_219_312 b X N Y xs rc573 rc225 M x3 x4 x5 x7 = some R0) : G l w L E M [(0, .ref b), (1, .ref X), (2, .ref Y), (3, .int x3), (4, .int x4), (5, .int x5), (7, .int x7)] 312 [] := by
  unfold b_Lw_219_312 at hf
  refine g_aload_n (pc := 312) cx dL_law_312 rfl 1 rfl ?_
  refine g_iload (pc := 313) cx dL_law_313 6 rfl ?_
  refine g_iload (pc := 315) cx dL_law_315 5 rfl ?_
  refine g_bipush (pc := 317) (v := 8) cx dL_law_317 (by decide) ?_
  refine g_ishr (pc := 319) cx dL_law_319 ?_
  refine g_bipush (pc := 320) (v := 51) cx dL_law_320 (by decide) ?_
  obtain ⟨q3, M1, hc2, hf⟩ := obn_some2 hf
  refine g_callSi (pc := 322) [.int (x5 >>> (8 &&& 31)), .int 51] [.int x7, .ref X] cx lk_L_181 (by decide) (c_L_part hc2) dL_law_322 (Nat.le_of_ble_eq_true rfl) ?_
  refine g_aload_n (pc := 325) cx dL_law_325 rfl 1 rfl ?_
  refine g_bipush (pc := 326) (v := 8) cx dL_law_326 (by decide) ?_
  obtain ⟨q6, M4, hc5, hf⟩ := obn_some2 hf
  refine g_callVi (pc := 328) [.int 8] [.int q3, .int x7, .ref X] cx lk_L_13 vw_X8 (LTramWires_o h1) (by decide) (c_X8_count h1 hc5) dL_law_328 (Nat.le_of_ble_eq_true rfl) ?_
  refine g_iload (pc := 331) cx dL_law_331 5 rfl ?_
  refine g_bipush (pc := 333) (v := 6) cx dL_law_333 (by decide) ?_
  refine g_ishr (pc := 335) cx dL_law_335 ?_
  refine g_bipush (pc := 336) (v := 100) cx dL_law_336 (by decide) ?_
  obtain ⟨q9, M7, hc8, hf⟩ := obn_some2 hf
  refine g_callSi (pc := 338) [.int (x5 >>> (6 &&& 31)), .int 100] [.int q6, .int q3, .int x7, .ref X] cx lk_L_181 (by decide) (c_L_part hc8) dL_law_338 (Nat.le_of_ble_eq_true rfl) ?_
  refine g_iadd (pc := 341) cx dL_law_341 ?_
  obtain ⟨q12, M10, hc11, hf⟩ := obn_some2 hf
  refine g_callVi (pc := 342) [.int x7, .int q3, .int (q6 + q9)] [] cx lk_L_41 vw_X8 (LTramWires_o h1) (by decide) (c_X8_enter h1 hc11) dL_law_342 (Nat.le_of_ble_eq_true rfl) ?_
  refine g_goto (pc := 345) (tgt := 447) cx dL_law_345 rfl ?_
  refine g_sub [0, 1, 2, 3, 4] [(0, .ref b), (1, .ref X), (2, .ref Y), (3, .int x3), (4, .int x4)] rfl ?_
  exact w_Lw_219_447 cx en hJ h1 sc hLb hY hrc573 hrc225 hf
set_option maxHeartbeats 4000000 in
set_option maxRecDepth 100000 in
theorem w_Lw_219_355 {l : Launch} {w : Wp} {L : Ly} {E : Cx} {b X N Y : Nat} {xs : Nat → Int32} {rc573 : Mm → OR} {rc225 : Mm → Int32 → Int32 → OR} {x3 : Int32} {x4 : Int32} {x5 : Int32} {x7 : Int32} {R0 : Int32 × Mm} (cx : Ok w L E RL cL_law 9 9) (en : EnL E b R0) {cJ : ClassId} (hJ : ArrOfT (xS E) cJ .long) (h1 : LTramWires w L X) (sc : Sc E b N xs) (hLb : L b = none) (hY : L Y = some (gJ cJ 48)) (hrc573 : ∀ (M : Mm), rc573 M = some R0 → G l w L E M [] 573 []) (hrc225 : ∀ (M : Mm) (x3 : Int32) (x4 : Int32), rc225 M x3 x4 = some R0 → G l w L E M [(0, .ref b), (1, .ref X), (2, .ref Y), (3, .int x3), (4, .int x4)] 225 []) {M : Mm} (hf : b_Lw_219_355 b X N Y xs rc573 rc225 M x3 x4 x5 x7 = some R0) : G l w L E M [(0, .ref b), (1, .ref X), (2, .ref Y), (3, .int x3), (4, .int x4), (5, .int x5), (7, .int x7)] 355 [] := by
  unfold b_Lw_219_355 at hf
  refine g_aload_n (pc := 355) cx dL_law_355 rfl 1 rfl ?_
  refine g_iload (pc := 356) cx dL_law_356 6 rfl ?_
  refine g_iload (pc := 358) cx dL_law_358 5 rfl ?_
  refine g_bipush (pc := 360) (v := 8) cx dL_law_360 (by decide) ?_
  refine g_ishr (pc := 362) cx dL_law_362 ?_
  refine g_bipush (pc := 363) (v := 20) cx dL_law_363 (by decide) ?_
  obtain ⟨q3, M1, hc2, hf⟩ := obn_some2 hf
  refine g_callSi (pc := 365) [.int (x5 >>> (8 &&& 31)), .int 20] [.int x7, .ref X] cx lk_L_181 (by decide) (c_L_part hc2) dL_law_365 (Nat.le_of_ble_eq_true rfl) ?_
  obtain ⟨q6, M4, hc5, hf⟩ := obn_some2 hf
  refine g_callVi (pc := 368) [.int x7, .int q3] [] cx lk_L_45 vw_X8 (LTramWires_o h1) (by decide) (c_X8_leave h1 hc5) dL_law_368 (Nat.le_of_ble_eq_true rfl) ?_
  refine g_goto (pc := 371) (tgt := 447) cx dL_law_371 rfl ?_
  refine g_sub [0, 1, 2, 3, 4] [(0, .ref b), (1, .ref X), (2, .ref Y), (3, .int x3), (4, .int x4)] rfl ?_
  exact w_Lw_219_447 cx en hJ h1 sc hLb hY hrc573 hrc225 hf
set_option maxHeartbeats 4000000 in
set_option maxRecDepth 100000 in
theorem w_Lw_219_381 {l : Launch} {w : Wp} {L : Ly} {E : Cx} {b X N Y : Nat} {xs : Nat → Int32} {rc573 : Mm → OR} {rc225 : Mm → Int32 → Int32 → OR} {x3 : Int32} {x4 : Int32} {x7 : Int32} {R0 : Int32 × Mm} (cx : Ok w L E RL cL_law 9 9) (en : EnL E b R0) {cJ : ClassId} (hJ : ArrOfT (xS E) cJ .long) (h1 : LTramWires w L X) (sc : Sc E b N xs) (hLb : L b = none) (hY : L Y = some (gJ cJ 48)) (hrc573 : ∀ (M : Mm), rc573 M = some R0 → G l w L E M [] 573 []) (hrc225 : ∀ (M : Mm) (x3 : Int32) (x4 : Int32), rc225 M x3 x4 = some R0 → G l w L E M [(0, .ref b), (1, .ref X), (2, .ref Y), (3, .int x3), (4, .int x4)] 225 []) {M : Mm} (hf : b_Lw_219_381 b X N Y xs rc573 rc225 M x3 x4 x7 = some R0) : G l w L E M [(0, .ref b), (1, .ref X), (2, .ref Y), (3, .int x3), (4, .int x4), (7, .int x7)] 381 [] := by
  unfold b_Lw_219_381 at hf
  refine g_aload_n (pc := 381) cx dL_law_381 rfl 1 rfl ?_
  refine g_iload (pc := 382) cx dL_law_382 5 rfl ?_
  obtain ⟨q3, M1, hc2, hf⟩ := obn_some2 hf
  refine g_callVi (pc := 384) [.int x7] [] cx lk_L_48 vw_X8 (LTramWires_o h1) (by decide) (c_X8_fetch h1 hc2) dL_law_384 (Nat.le_of_ble_eq_true rfl) ?_
  refine g_goto (pc := 387) (tgt := 447) cx dL_law_387 rfl ?_
  refine g_sub [0, 1, 2, 3, 4] [(0, .ref b), (1, .ref X), (2, .ref Y), (3, .int x3), (4, .int x4)] rfl ?_
  exact w_Lw_219_447 cx en hJ h1 sc hLb hY hrc573 hrc225 hf
set_option maxHeartbeats 4000000 in
set_option maxRecDepth 100000 in
theorem w_Lw_219_397 {l : Launch} {w : Wp} {L : Ly} {E : Cx} {b X N Y : Nat} {xs : Nat → Int32} {rc573 : Mm → OR} {rc225 : Mm → Int32 → Int32 → OR} {x3 : Int32} {x4 : Int32} {x5 : Int32} {R0 : Int32 × Mm} (cx : Ok w L E RL cL_law 9 9) (en : EnL E b R0) {cJ : ClassId} (hJ : ArrOfT (xS E) cJ .long) (h1 : LTramWires w L X) (sc : Sc E b N xs) (hLb : L b = none) (hY : L Y = some (gJ cJ 48)) (hrc573 : ∀ (M : Mm), rc573 M = some R0 → G l w L E M [] 573 []) (hrc225 : ∀ (M : Mm) (x3 : Int32) (x4 : Int32), rc225 M x3 x4 = some R0 → G l w L E M [(0, .ref b), (1, .ref X), (2, .ref Y), (3, .int x3), (4, .int x4)] 225 []) {M : Mm} (hf : b_Lw_219_397 b X N Y xs rc573 rc225 M x3 x4 x5 = some R0) : G l w L E M [(0, .ref b), (1, .ref X), (2, .ref Y), (3, .int x3), (4, .int x4), (5, .int x5)] 397 [] := by
  unfold b_Lw_219_397 at hf
  refine g_aload_n (pc := 397) cx dL_law_397 rfl 1 rfl ?_
  refine g_iconst (pc := 398) (v := 1) cx dL_law_398 (by decide) ?_
  refine g_iload (pc := 399) cx dL_law_399 5 rfl ?_
  refine g_bipush (pc := 401) (v := 8) cx dL_law_401 (by decide) ?_
  refine g_ishr (pc := 403) cx dL_law_403 ?_
  refine g_bipush (pc := 404) (v := 100) cx dL_law_404 (by decide) ?_
  obtain ⟨q3, M1, hc2, hf⟩ := obn_some2 hf
  refine g_callSi (pc := 406) [.int (x5 >>> (8 &&& 31)), .int 100] [.int 1, .ref X] cx lk_L_181 (by decide) (c_L_part hc2) dL_law_406 (Nat.le_of_ble_eq_true rfl) ?_
  refine g_iadd (pc := 409) cx dL_law_409 ?_
  obtain ⟨q6, M4, hc5, hf⟩ := obn_some2 hf
  refine g_callVi (pc := 410) [.int (1 + q3)] [] cx lk_L_74 vw_X8 (LTramWires_o h1) (by decide) (c_X8_pass h1 hc5) dL_law_410 (Nat.le_of_ble_eq_true rfl) ?_
  refine g_goto (pc := 413) (tgt := 447) cx dL_law_413 rfl ?_
  refine g_sub [0, 1, 2, 3, 4] [(0, .ref b), (1, .ref X), (2, .ref Y), (3, .int x3), (4, .int x4)] rfl ?_
  exact w_Lw_219_447 cx en hJ h1 sc hLb hY hrc573 hrc225 hf
set_option maxHeartbeats 4000000 in
set_option maxRecDepth 100000 in
theorem w_Lw_219_423 {l : Launch} {w : Wp} {L : Ly} {E : Cx} {b X N Y : Nat} {xs : Nat → Int32} {rc573 : Mm → OR} {rc225 : Mm → Int32 → Int32 → OR} {x3 : Int32} {x4 : Int32} {x5 : Int32} {R0 : Int32 × Mm} (cx : Ok w L E RL cL_law 9 9) (en : EnL E b R0) {cJ : ClassId} (hJ : ArrOfT (xS E) cJ .long) (h1 : LTramWires w L X) (sc : Sc E b N xs) (hLb : L b = none) (hY : L Y = some (gJ cJ 48)) (hrc573 : ∀ (M : Mm), rc573 M = some R0 → G l w L E M [] 573 []) (hrc225 : ∀ (M : Mm) (x3 : Int32) (x4 : Int32), rc225 M x3 x4 = some R0 → G l w L E M [(0, .ref b), (1, .ref X), (2, .ref Y), (3, .int x3), (4, .int x4)] 225 []) {M : Mm} (hf : b_Lw_219_423 b X N Y xs rc573 rc225 M x3 x4 x5 = some R0) : G l w L E M [(0, .ref b), (1, .ref X), (2, .ref Y), (3, .int x3), (4, .int x4), (5, .int x5)] 423 [] := by
  unfold b_Lw_219_423 at hf
  refine g_aload_n (pc := 423) cx dL_law_423 rfl 1 rfl ?_
  refine g_iload (pc := 424) cx dL_law_424 5 rfl ?_
  refine g_bipush (pc := 426) (v := 8) cx dL_law_426 (by decide) ?_
  refine g_ishr (pc := 428) cx dL_law_428 ?_
  refine g_bipush (pc := 429) (v := 41) cx dL_law_429 (by decide) ?_
  obtain ⟨q3, M1, hc2, hf⟩ := obn_some2 hf
  refine g_callSi (pc := 431) [.int (x5 >>> (8 &&& 31)), .int 41] [.ref X] cx lk_L_181 (by decide) (c_L_part hc2) dL_law_431 (Nat.le_of_ble_eq_true rfl) ?_
  obtain ⟨q6, M4, hc5, hf⟩ := obn_some2 hf
  refine g_callVi (pc := 434) [.int q3] [] cx lk_L_71 vw_X8 (LTramWires_o h1) (by decide) (c_X8_pool h1 hc5) dL_law_434 (Nat.le_of_ble_eq_true rfl) ?_
  refine g_goto (pc := 437) (tgt := 447) cx dL_law_437 rfl ?_
  refine g_sub [0, 1, 2, 3, 4] [(0, .ref b), (1, .ref X), (2, .ref Y), (3, .int x3), (4, .int x4)] rfl ?_
  exact w_Lw_219_447 cx en hJ h1 sc hLb hY hrc573 hrc225 hf
set_option maxHeartbeats 4000000 in
set_option maxRecDepth 100000 in
theorem w_Lw_219_275 {l : Launch} {w : Wp} {L : Ly} {E : Cx} {b X N Y : Nat} {xs : Nat → Int32} {rc573 : Mm → OR} {rc225 : Mm → Int32 → Int32 → OR} {x3 : Int32} {x4 : Int32} {x5 : Int32} {x6 : Int32} {s0 : Int32} {s1 : Int32} {R0 : Int32 × Mm} (cx : Ok w L E RL cL_law 9 9) (en : EnL E b R0) {cJ : ClassId} (hJ : ArrOfT (xS E) cJ .long) (h1 : LTramWires w L X) (sc : Sc E b N xs) (hLb : L b = none) (hY : L Y = some (gJ cJ 48)) (hrc573 : ∀ (M : Mm), rc573 M = some R0 → G l w L E M [] 573 []) (hrc225 : ∀ (M : Mm) (x3 : Int32) (x4 : Int32), rc225 M x3 x4 = some R0 → G l w L E M [(0, .ref b), (1, .ref X), (2, .ref Y), (3, .int x3), (4, .int x4)] 225 []) {M : Mm} (hf : b_Lw_219_275 b X N Y xs rc573 rc225 M x3 x4 x5 x6 s0 s1 = some R0) : G l w L E M [(0, .ref b), (1, .ref X), (2, .ref Y), (3, .int x3), (4, .int x4), (5, .int x5), (6, .int x6)] 275 [.int s1, .int s0] := by
  unfold b_Lw_219_275 at hf
  obtain ⟨q3, M1, hc2, hf⟩ := obn_some2 hf
  refine g_callSi (pc := 275) [.int s0, .int s1] [] cx lk_L_181 (by decide) (c_L_part hc2) dL_law_275 (Nat.le_of_ble_eq_true rfl) ?_
  refine g_istore (pc := 278) cx [(7, .int q3), (0, .ref b), (1, .ref X), (2, .ref Y), (3, .int x3), (4, .int x4), (5, .int x5), (6, .int x6)] dL_law_278 (by decide) rfl ?_
  refine g_aload_n (pc := 280) cx dL_law_280 rfl 3 rfl ?_
  refine g_iload_n (pc := 281) cx dL_law_281 rfl 4 rfl ?_
  refine g_aload_n (pc := 282) cx dL_law_282 rfl 2 rfl ?_
  obtain ⟨q6, M4, hc5, hf⟩ := obn_some2 hf
  refine g_callSj (pc := 283) [.ref X] [.int x3, .ref Y] cx lk_L_60 (by decide) (c_L_state h1 hc5) dL_law_283 (Nat.le_of_ble_eq_true rfl) ?_
  refine g_last (pc := 286) cx hJ hY dL_law_286 hf (fun M7 hf => ?_)
  refine g_iload (pc := 287) cx dL_law_287 7 rfl ?_
  refine g_bipush (pc := 289) (v := 8) cx dL_law_289 (by decide) ?_
  refine g_icmp_ge (pc := 291) (tgt := 305) cx dL_law_291 rfl hf (fun hf => ?_) (fun hf => ?_)
  · refine g_sub [1, 2, 3, 4, 5, 7, 0] [(0, .ref b), (1, .ref X), (2, .ref Y), (3, .int x3), (4, .int x4), (6, .int x6), (7, .int q3)] rfl ?_
    exact w_Lw_219_294 cx en hJ h1 sc hLb hY hrc573 hrc225 hf
  · refine g_iload (pc := 305) cx dL_law_305 7 rfl ?_
    refine g_bipush (pc := 307) (v := 8) cx dL_law_307 (by decide) ?_
    refine g_icmp_ne (pc := 309) (tgt := 348) cx dL_law_309 rfl hf (fun hf => ?_) (fun hf => ?_)
    · refine g_sub [1, 2, 3, 4, 5, 6, 0] [(0, .ref b), (1, .ref X), (2, .ref Y), (3, .int x3), (4, .int x4), (5, .int x5), (7, .int q3)] rfl ?_
      exact w_Lw_219_312 cx en hJ h1 sc hLb hY hrc573 hrc225 hf
    · refine g_iload (pc := 348) cx dL_law_348 7 rfl ?_
      refine g_bipush (pc := 350) (v := 9) cx dL_law_350 (by decide) ?_
      refine g_icmp_ne (pc := 352) (tgt := 374) cx dL_law_352 rfl hf (fun hf => ?_) (fun hf => ?_)
      · refine g_sub [1, 2, 3, 4, 5, 6, 0] [(0, .ref b), (1, .ref X), (2, .ref Y), (3, .int x3), (4, .int x4), (5, .int x5), (7, .int q3)] rfl ?_
        exact w_Lw_219_355 cx en hJ h1 sc hLb hY hrc573 hrc225 hf
      · refine g_iload (pc := 374) cx dL_law_374 7 rfl ?_
        refine g_bipush (pc := 376) (v := 10) cx dL_law_376 (by decide) ?_
        refine g_icmp_ne (pc := 378) (tgt := 390) cx dL_law_378 rfl hf (fun hf => ?_) (fun hf => ?_)
        · refine g_sub [1, 2, 3, 4, 5, 0] [(0, .ref b), (1, .ref X), (2, .ref Y), (3, .int x3), (4, .int x4), (7, .int q3)] rfl ?_
          exact w_Lw_219_381 cx en hJ h1 sc hLb hY hrc573 hrc225 hf
        · refine g_iload (pc := 390) cx dL_law_390 7 rfl ?_
          refine g_bipush (pc := 392) (v := 11) cx dL_law_392 (by decide) ?_
          refine g_icmp_ne (pc := 394) (tgt := 416) cx dL_law_394 rfl hf (fun hf => ?_) (fun hf => ?_)
          · refine g_sub [1, 2, 3, 4, 5, 6] [(0, .ref b), (1, .ref X), (2, .ref Y), (3, .int x3), (4, .int x4), (5, .int x5)] rfl ?_
            exact w_Lw_219_397 cx en hJ h1 sc hLb hY hrc573 hrc225 hf
          · refine g_iload (pc := 416) cx dL_law_416 7 rfl ?_
            refine g_bipush (pc := 418) (v := 12) cx dL_law_418 (by decide) ?_
            refine g_icmp_ne (pc := 420) (tgt := 440) cx dL_law_420 rfl hf (fun hf => ?_) (fun hf => ?_)
            · refine g_sub [1, 2, 3, 4, 5, 6] [(0, .ref b), (1, .ref X), (2, .ref Y), (3, .int x3), (4, .int x4), (5, .int x5)] rfl ?_
              exact w_Lw_219_423 cx en hJ h1 sc hLb hY hrc573 hrc225 hf
            · refine g_aload_n (pc := 440) cx dL_law_440 rfl 2 rfl ?_
              refine g_iconst (pc := 441) (v := 0) cx dL_law_441 (by decide) ?_
              refine g_iload (pc := 442) cx dL_law_442 0 rfl ?_
              obtain ⟨q10, M8, hc9, hf⟩ := obn_some2 hf
              refine g_callVi (pc := 444) [.int 0, .int q3] [] cx lk_L_57 vw_X8 (LTramWires_o h1) (by decide) (c_X8_step h1 hc9) dL_law_444 (Nat.le_of_ble_eq_true rfl) ?_
              refine g_sub [1, 2, 3, 4, 5] [(0, .ref b), (1, .ref X), (2, .ref Y), (3, .int x3), (4, .int x4)] rfl ?_
              exact w_Lw_219_447 cx en hJ h1 sc hLb hY hrc573 hrc225 hf
set_option maxHeartbeats 4000000 in
set_option maxRecDepth 100000 in
theorem w_Lw_219_268 {l : Launch} {w : Wp} {L : Ly} {E : Cx} {b X N Y : Nat} {xs : Nat → Int32} {rc573 : Mm → OR} {rc225 : Mm → Int32 → Int32 → OR} {x3 : Int32} {x4 : Int32} {x5 : Int32} {x6 : Int32} {s0 : Int32} {R0 : Int32 × Mm} (cx : Ok w L E RL cL_law 9 9) (en : EnL E b R0) {cJ : ClassId} (hJ : ArrOfT (xS E) cJ .long) (h1 : LTramWires w L X) (sc : Sc E b N xs) (hLb : L b = none) (hY : L Y = some (gJ cJ 48)) (hrc573 : ∀ (M : Mm), rc573 M = some R0 → G l w L E M [] 573 []) (hrc225 : ∀ (M : Mm) (x3 : Int32) (x4 : Int32), rc225 M x3 x4 = some R0 → G l w L E M [(0, .ref b), (1, .ref X), (2, .ref Y), (3, .int x3), (4, .int x4)] 225 []) {M : Mm} (hf : b_Lw_219_268 b X N Y xs rc573 rc225 M x3 x4 x5 x6 s0 = some R0) : G l w L E M [(0, .ref b), (1, .ref X), (2, .ref Y), (3, .int x3), (4, .int x4), (5, .int x5), (6, .int x6)] 268 [.int s0] := by
  unfold b_Lw_219_268 at hf
  refine g_bipush (pc := 268) (v := 16) cx dL_law_268 (by decide) ?_
  refine g_goto (pc := 270) (tgt := 275) cx dL_law_270 rfl ?_
  exact w_Lw_219_275 cx en hJ h1 sc hLb hY hrc573 hrc225 hf
set_option maxHeartbeats 4000000 in
set_option maxRecDepth 100000 in
theorem w_Lw_219_232 {l : Launch} {w : Wp} {L : Ly} {E : Cx} {b X N Y : Nat} {xs : Nat → Int32} {rc573 : Mm → OR} {rc225 : Mm → Int32 → Int32 → OR} {x3 : Int32} {x4 : Int32} {R0 : Int32 × Mm} (cx : Ok w L E RL cL_law 9 9) (en : EnL E b R0) {cJ : ClassId} (hJ : ArrOfT (xS E) cJ .long) (h1 : LTramWires w L X) (sc : Sc E b N xs) (hLb : L b = none) (hY : L Y = some (gJ cJ 48)) (hrc573 : ∀ (M : Mm), rc573 M = some R0 → G l w L E M [] 573 []) (hrc225 : ∀ (M : Mm) (x3 : Int32) (x4 : Int32), rc225 M x3 x4 = some R0 → G l w L E M [(0, .ref b), (1, .ref X), (2, .ref Y), (3, .int x3), (4, .int x4)] 225 []) {M : Mm} (hf : b_Lw_219_232 b X N Y xs rc573 rc225 M x3 x4 = some R0) : G l w L E M [(0, .ref b), (1, .ref X), (2, .ref Y), (3, .int x3), (4, .int x4)] 232 [] := by
  unfold b_Lw_219_232 at hf
  refine g_aload_n (pc := 232) cx dL_law_232 rfl 0 rfl ?_
  refine g_bipush (pc := 233) (v := 60) cx dL_law_233 (by decide) ?_
  refine g_iload (pc := 235) cx dL_law_235 4 rfl ?_
  refine g_iadd (pc := 237) cx dL_law_237 ?_
  obtain ⟨q3, M1, hc2, hf⟩ := obn_some2 hf
  refine g_callSiS (pc := 238) [.ref b, .int (60 + x4)] [] cx sc lk_L_177 (by decide) (c_L_take hLb hc2) dL_law_238 (Nat.le_of_ble_eq_true rfl) ?_
  refine g_istore (pc := 241) cx [(5, .int q3), (0, .ref b), (1, .ref X), (2, .ref Y), (3, .int x3), (4, .int x4)] dL_law_241 (by decide) rfl ?_
  refine g_iload (pc := 243) cx dL_law_243 0 rfl ?_
  refine g_bipush (pc := 245) (v := 14) cx dL_law_245 (by decide) ?_
  obtain ⟨q6, M4, hc5, hf⟩ := obn_some2 hf
  refine g_callSi (pc := 247) [.int q3, .int 14] [] cx lk_L_181 (by decide) (c_L_part hc5) dL_law_247 (Nat.le_of_ble_eq_true rfl) ?_
  refine g_istore (pc := 250) cx [(6, .int q6), (5, .int q3), (0, .ref b), (1, .ref X), (2, .ref Y), (3, .int x3), (4, .int x4)] dL_law_250 (by decide) rfl ?_
  refine g_iload (pc := 252) cx dL_law_252 1 rfl ?_
  refine g_iconst (pc := 254) (v := 4) cx dL_law_254 (by decide) ?_
  refine g_ishr (pc := 255) cx dL_law_255 ?_
  refine g_iload (pc := 256) cx dL_law_256 0 rfl ?_
  refine g_iconst (pc := 258) (v := 2) cx dL_law_258 (by decide) ?_
  refine g_icmp_eq (pc := 259) (tgt := 268) cx dL_law_259 rfl hf (fun hf => ?_) (fun hf => ?_)
  · refine g_sub [2, 3, 4, 5, 6, 1, 0] [(0, .ref b), (1, .ref X), (2, .ref Y), (3, .int x3), (4, .int x4), (5, .int q3), (6, .int q6)] rfl ?_
    exact w_Lw_219_268 cx en hJ h1 sc hLb hY hrc573 hrc225 hf
  · refine g_iload (pc := 262) cx dL_law_262 0 rfl ?_
    refine g_iconst (pc := 264) (v := 3) cx dL_law_264 (by decide) ?_
    refine g_icmp_ne (pc := 265) (tgt := 273) cx dL_law_265 rfl hf (fun hf => ?_) (fun hf => ?_)
    · refine g_sub [2, 3, 4, 5, 6, 1, 0] [(0, .ref b), (1, .ref X), (2, .ref Y), (3, .int x3), (4, .int x4), (5, .int q3), (6, .int q6)] rfl ?_
      exact w_Lw_219_268 cx en hJ h1 sc hLb hY hrc573 hrc225 hf
    · refine g_bipush (pc := 273) (v := 10) cx dL_law_273 (by decide) ?_
      refine g_sub [2, 3, 4, 5, 6, 1, 0] [(0, .ref b), (1, .ref X), (2, .ref Y), (3, .int x3), (4, .int x4), (5, .int q3), (6, .int q6)] rfl ?_
      exact w_Lw_219_275 cx en hJ h1 sc hLb hY hrc573 hrc225 hf
set_option maxHeartbeats 4000000 in
set_option maxRecDepth 100000 in
theorem w_Lw_219_562 {l : Launch} {w : Wp} {L : Ly} {E : Cx} {b X N Y : Nat} {xs : Nat → Int32} {rc573 : Mm → OR} {R0 : Int32 × Mm} (cx : Ok w L E RL cL_law 9 9) (en : EnL E b R0) {cJ : ClassId} (hJ : ArrOfT (xS E) cJ .long) (h1 : LTramWires w L X) (sc : Sc E b N xs) (hLb : L b = none) (hY : L Y = some (gJ cJ 48)) (hrc573 : ∀ (M : Mm), rc573 M = some R0 → G l w L E M [] 573 []) {M : Mm} (hf : b_Lw_219_562 b X N Y xs rc573 M = some R0) : G l w L E M [(1, .ref X)] 562 [] := by
  unfold b_Lw_219_562 at hf
  refine g_aload_n (pc := 562) cx dL_law_562 rfl 0 rfl ?_
  obtain ⟨q3, M1, hc2, hf⟩ := obn_some2 hf
  refine g_callVi (pc := 563) [] [] cx lk_L_164 vw_X8 (LTramWires_o h1) (by decide) (c_X8_undo h1 hc2) dL_law_563 (Nat.le_of_ble_eq_true rfl) ?_
  refine g_bipush (pc := 566) (v := (-2)) cx dL_law_566 (by decide) ?_
  refine g_icmp_eq (pc := 568) (tgt := 573) cx dL_law_568 rfl hf (fun hf => ?_) (fun hf => ?_)
  · refine g_sub [] [] rfl ?_
    exact hrc573 _ hf
  · refine g_iconst (pc := 571) (v := 0) cx dL_law_571 (by decide) ?_
    exact g_lawret (pc := 572) cx en dL_law_572 hf
set_option maxHeartbeats 4000000 in
set_option maxRecDepth 100000 in
theorem w_Lw_219_557 {l : Launch} {w : Wp} {L : Ly} {E : Cx} {b X N Y : Nat} {xs : Nat → Int32} {rc573 : Mm → OR} {x3 : Int32} {R0 : Int32 × Mm} (cx : Ok w L E RL cL_law 9 9) (en : EnL E b R0) {cJ : ClassId} (hJ : ArrOfT (xS E) cJ .long) (h1 : LTramWires w L X) (sc : Sc E b N xs) (hLb : L b = none) (hY : L Y = some (gJ cJ 48)) (hrc573 : ∀ (M : Mm), rc573 M = some R0 → G l w L E M [] 573 []) {M : Mm} (hf : b_Lw_219_557 b X N Y xs rc573 M x3 = some R0) : G l w L E M [(1, .ref X), (3, .int x3)] 557 [] := by
  unfold b_Lw_219_557 at hf
  refine g_iload_n (pc := 557) cx dL_law_557 rfl 1 rfl ?_
  refine g_iconst (pc := 558) (v := 4) cx dL_law_558 (by decide) ?_
  refine g_icmp_le (pc := 559) (tgt := 573) cx dL_law_559 rfl hf (fun hf => ?_) (fun hf => ?_)
  · refine g_sub [0] [(1, .ref X)] rfl ?_
    exact w_Lw_219_562 cx en hJ h1 sc hLb hY hrc573 hf
  · refine g_sub [] [] rfl ?_
    exact hrc573 _ hf
set_option maxHeartbeats 4000000 in
set_option maxRecDepth 100000 in
theorem w_Lw_219_549 {l : Launch} {w : Wp} {L : Ly} {E : Cx} {b X N Y : Nat} {xs : Nat → Int32} {rc573 : Mm → OR} {R0 : Int32 × Mm} (cx : Ok w L E RL cL_law 9 9) (en : EnL E b R0) {cJ : ClassId} (hJ : ArrOfT (xS E) cJ .long) (h1 : LTramWires w L X) (sc : Sc E b N xs) (hLb : L b = none) (hY : L Y = some (gJ cJ 48)) (hrc573 : ∀ (M : Mm), rc573 M = some R0 → G l w L E M [] 573 []) {M : Mm} (hf : b_Lw_219_549 b X N Y xs rc573 M = some R0) : G l w L E M [] 549 [] := by
  unfold b_Lw_219_549 at hf
  refine g_iconst (pc := 549) (v := 0) cx dL_law_549 (by decide) ?_
  exact g_lawret (pc := 550) cx en dL_law_550 hf
set_option maxHeartbeats 4000000 in
set_option maxRecDepth 100000 in
theorem w_Lw_219_551 {l : Launch} {w : Wp} {L : Ly} {E : Cx} {b X N Y : Nat} {xs : Nat → Int32} {rc573 : Mm → OR} {rc498 : Mm → Int32 → OR} {x3 : Int32} {x4 : Int32} {R0 : Int32 × Mm} (cx : Ok w L E RL cL_law 9 9) (en : EnL E b R0) {cJ : ClassId} (hJ : ArrOfT (xS E) cJ .long) (h1 : LTramWires w L X) (sc : Sc E b N xs) (hLb : L b = none) (hY : L Y = some (gJ cJ 48)) (hrc573 : ∀ (M : Mm), rc573 M = some R0 → G l w L E M [] 573 []) (hrc498 : ∀ (M : Mm) (x4 : Int32), rc498 M x4 = some R0 → G l w L E M [(1, .ref X), (2, .ref Y), (3, .int x3), (4, .int x4)] 498 []) {M : Mm} (hf : b_Lw_219_551 b X N Y xs rc573 rc498 M x3 x4 = some R0) : G l w L E M [(1, .ref X), (2, .ref Y), (3, .int x3), (4, .int x4)] 551 [] := by
  unfold b_Lw_219_551 at hf
  refine g_iinc (pc := 551) cx [(4, .int (x4 + 1)), (1, .ref X), (2, .ref Y), (3, .int x3)] dL_law_551 3 rfl rfl (by decide) rfl ?_
  refine g_goto (pc := 554) (tgt := 498) cx dL_law_554 rfl ?_
  refine g_sub [1, 2, 3, 0] [(1, .ref X), (2, .ref Y), (3, .int x3), (4, .int (x4 + 1))] rfl ?_
  exact hrc498 _ _ hf
set_option maxHeartbeats 4000000 in
set_option maxRecDepth 100000 in
theorem w_Lw_219_521 {l : Launch} {w : Wp} {L : Ly} {E : Cx} {b X N Y : Nat} {xs : Nat → Int32} {rc573 : Mm → OR} {rc498 : Mm → Int32 → OR} {x3 : Int32} {x4 : Int32} {x5 : Int32} {R0 : Int32 × Mm} (cx : Ok w L E RL cL_law 9 9) (en : EnL E b R0) {cJ : ClassId} (hJ : ArrOfT (xS E) cJ .long) (h1 : LTramWires w L X) (sc : Sc E b N xs) (hLb : L b = none) (hY : L Y = some (gJ cJ 48)) (hrc573 : ∀ (M : Mm), rc573 M = some R0 → G l w L E M [] 573 []) (hrc498 : ∀ (M : Mm) (x4 : Int32), rc498 M x4 = some R0 → G l w L E M [(1, .ref X), (2, .ref Y), (3, .int x3), (4, .int x4)] 498 []) {M : Mm} (hf : b_Lw_219_521 b X N Y xs rc573 rc498 M x3 x4 x5 = some R0) : G l w L E M [(1, .ref X), (2, .ref Y), (3, .int x3), (4, .int x4), (5, .int x5)] 521 [] := by
  unfold b_Lw_219_521 at hf
  refine g_aload_n (pc := 521) cx dL_law_521 rfl 0 rfl ?_
  obtain ⟨q3, M1, hc2, hf⟩ := obn_some2 hf
  refine g_callSj (pc := 522) [.ref X] [] cx lk_L_60 (by decide) (c_L_state h1 hc2) dL_law_522 (Nat.le_of_ble_eq_true rfl) ?_
  refine g_aload_n (pc := 525) cx dL_law_525 rfl 1 rfl ?_
  refine g_iload_n (pc := 526) cx dL_law_526 rfl 2 rfl ?_
  refine g_iload (pc := 527) cx dL_law_527 3 rfl ?_
  refine g_isub (pc := 529) cx dL_law_529 ?_
  refine g_lald (pc := 530) cx hJ hY dL_law_530 hf (fun hf => ?_)
  refine g_lcmp (pc := 531) cx dL_law_531 ?_
  refine g_if_ne (pc := 532) (tgt := 549) cx dL_law_532 rfl hf (fun hf => ?_) (fun hf => ?_)
  · refine g_iload_n (pc := 535) cx dL_law_535 rfl 2 rfl ?_
    refine g_iconst (pc := 536) (v := 4) cx dL_law_536 (by decide) ?_
    refine g_icmp_le (pc := 537) (tgt := 551) cx dL_law_537 rfl hf (fun hf => ?_) (fun hf => ?_)
    · refine g_iload (pc := 540) cx dL_law_540 4 rfl ?_
      refine g_iconst (pc := 542) (v := 5) cx dL_law_542 (by decide) ?_
      refine g_iload (pc := 543) cx dL_law_543 3 rfl ?_
      refine g_isub (pc := 545) cx dL_law_545 ?_
      refine g_icmp_eq (pc := 546) (tgt := 551) cx dL_law_546 rfl hf (fun hf => ?_) (fun hf => ?_)
      · refine g_sub [0, 1, 2, 3] [(1, .ref X), (2, .ref Y), (3, .int x3), (4, .int x4)] rfl ?_
        exact w_Lw_219_551 cx en hJ h1 sc hLb hY hrc573 hrc498 hf
      · refine g_sub [] [] rfl ?_
        exact w_Lw_219_549 cx en hJ h1 sc hLb hY hrc573 hf
    · refine g_sub [0, 1, 2, 3] [(1, .ref X), (2, .ref Y), (3, .int x3), (4, .int x4)] rfl ?_
      exact w_Lw_219_551 cx en hJ h1 sc hLb hY hrc573 hrc498 hf
  · refine g_sub [] [] rfl ?_
    exact w_Lw_219_549 cx en hJ h1 sc hLb hY hrc573 hf
set_option maxHeartbeats 4000000 in
set_option maxRecDepth 100000 in
theorem w_Lw_219_510 {l : Launch} {w : Wp} {L : Ly} {E : Cx} {b X N Y : Nat} {xs : Nat → Int32} {rc573 : Mm → OR} {rc498 : Mm → Int32 → OR} {x3 : Int32} {x4 : Int32} {R0 : Int32 × Mm} (cx : Ok w L E RL cL_law 9 9) (en : EnL E b R0) {cJ : ClassId} (hJ : ArrOfT (xS E) cJ .long) (h1 : LTramWires w L X) (sc : Sc E b N xs) (hLb : L b = none) (hY : L Y = some (gJ cJ 48)) (hrc573 : ∀ (M : Mm), rc573 M = some R0 → G l w L E M [] 573 []) (hrc498 : ∀ (M : Mm) (x4 : Int32), rc498 M x4 = some R0 → G l w L E M [(1, .ref X), (2, .ref Y), (3, .int x3), (4, .int x4)] 498 []) {M : Mm} (hf : b_Lw_219_510 b X N Y xs rc573 rc498 M x3 x4 = some R0) : G l w L E M [(1, .ref X), (2, .ref Y), (3, .int x3), (4, .int x4)] 510 [] := by
  unfold b_Lw_219_510 at hf
  refine g_aload_n (pc := 510) cx dL_law_510 rfl 0 rfl ?_
  obtain ⟨q3, M1, hc2, hf⟩ := obn_some2 hf
  refine g_callVi (pc := 511) [] [] cx lk_L_164 vw_X8 (LTramWires_o h1) (by decide) (c_X8_undo h1 hc2) dL_law_511 (Nat.le_of_ble_eq_true rfl) ?_
  refine g_istore (pc := 514) cx [(5, .int q3), (1, .ref X), (2, .ref Y), (3, .int x3), (4, .int x4)] dL_law_514 (by decide) rfl ?_
  refine g_iload (pc := 516) cx dL_law_516 0 rfl ?_
  refine g_if_lt (pc := 518) (tgt := 549) cx dL_law_518 rfl hf (fun hf => ?_) (fun hf => ?_)
  · refine g_sub [] [] rfl ?_
    exact w_Lw_219_549 cx en hJ h1 sc hLb hY hrc573 hf
  · refine g_sub [1, 2, 3, 4, 0] [(1, .ref X), (2, .ref Y), (3, .int x3), (4, .int x4), (5, .int q3)] rfl ?_
    exact w_Lw_219_521 cx en hJ h1 sc hLb hY hrc573 hrc498 hf
set_option maxHeartbeats 4000000 in
set_option maxRecDepth 100000 in
theorem w_Lw_219_498 {l : Launch} {w : Wp} {L : Ly} {E : Cx} {b X N Y : Nat} {xs : Nat → Int32} {rc573 : Mm → OR} {x3 : Int32} {R0 : Int32 × Mm} (cx : Ok w L E RL cL_law 9 9) (en : EnL E b R0) {cJ : ClassId} (hJ : ArrOfT (xS E) cJ .long) (h1 : LTramWires w L X) (sc : Sc E b N xs) (hLb : L b = none) (hY : L Y = some (gJ cJ 48)) (hrc573 : ∀ (M : Mm), rc573 M = some R0 → G l w L E M [] 573 []) : ∀ (k : Nat) {M : Mm} {x4 : Int32}, l_Lw_219_498 b X N Y xs rc573 x3 k M x4 = some R0 → G l w L E M [(1, .ref X), (2, .ref Y), (3, .int x3), (4, .int x4)] 498 [] := by
  intro k
  induction k with
  | zero =>
    intro M x4 hf
    exact absurd hf (by simp [l_Lw_219_498])
  | succ k ih =>
    intro M x4 hf
    unfold l_Lw_219_498 at hf
    refine g_iload (pc := 498) cx dL_law_498 3 rfl ?_
    refine g_iconst (pc := 500) (v := 5) cx dL_law_500 (by decide) ?_
    refine g_icmp_gt (pc := 501) (tgt := 557) cx dL_law_501 rfl hf (fun hf => ?_) (fun hf => ?_)
    · refine g_sub [0, 2] [(1, .ref X), (3, .int x3)] rfl ?_
      exact w_Lw_219_557 cx en hJ h1 sc hLb hY hrc573 hf
    · refine g_iload (pc := 504) cx dL_law_504 3 rfl ?_
      refine g_iload_n (pc := 506) cx dL_law_506 rfl 2 rfl ?_
      refine g_icmp_gt (pc := 507) (tgt := 557) cx dL_law_507 rfl hf (fun hf => ?_) (fun hf => ?_)
      · refine g_sub [0, 2] [(1, .ref X), (3, .int x3)] rfl ?_
        exact w_Lw_219_557 cx en hJ h1 sc hLb hY hrc573 hf
      · exact w_Lw_219_510 cx en hJ h1 sc hLb hY hrc573 (fun _ _ hf => ih hf) hf
set_option maxHeartbeats 4000000 in
set_option maxRecDepth 100000 in
theorem w_Lw_219_225 {l : Launch} {w : Wp} {L : Ly} {E : Cx} {b X N Y : Nat} {xs : Nat → Int32} {rc573 : Mm → OR} {R0 : Int32 × Mm} (cx : Ok w L E RL cL_law 9 9) (en : EnL E b R0) {cJ : ClassId} (hJ : ArrOfT (xS E) cJ .long) (h1 : LTramWires w L X) (sc : Sc E b N xs) (hLb : L b = none) (hY : L Y = some (gJ cJ 48)) (hrc573 : ∀ (M : Mm), rc573 M = some R0 → G l w L E M [] 573 []) : ∀ (k : Nat) {M : Mm} {x3 : Int32} {x4 : Int32}, l_Lw_219_225 b X N Y xs rc573 k M x3 x4 = some R0 → G l w L E M [(0, .ref b), (1, .ref X), (2, .ref Y), (3, .int x3), (4, .int x4)] 225 [] := by
  intro k
  induction k with
  | zero =>
    intro M x3 x4 hf
    exact absurd hf (by simp [l_Lw_219_225])
  | succ k ih =>
    intro M x3 x4 hf
    unfold l_Lw_219_225 at hf
    refine g_iload (pc := 225) cx dL_law_225 4 rfl ?_
    refine g_bipush (pc := 227) (v := 40) cx dL_law_227 (by decide) ?_
    refine g_icmp_ge (pc := 229) (tgt := 486) cx dL_law_229 rfl hf (fun hf => ?_) (fun hf => ?_)
    · exact w_Lw_219_232 cx en hJ h1 sc hLb hY hrc573 (fun _ _ _ hf => ih hf) hf
    · refine g_aload_n (pc := 486) cx dL_law_486 rfl 1 rfl ?_
      obtain ⟨q3, M1, hc2, hf⟩ := obn_some2 hf
      refine g_callSi (pc := 487) [.ref X] [] cx lk_L_174 (by decide) (c_L_refused h1 hc2) dL_law_487 (Nat.le_of_ble_eq_true rfl) ?_
      refine g_if_ne (pc := 490) (tgt := 495) cx dL_law_490 rfl hf (fun hf => ?_) (fun hf => ?_)
      · refine g_iconst (pc := 493) (v := 0) cx dL_law_493 (by decide) ?_
        exact g_lawret (pc := 494) cx en dL_law_494 hf
      · refine g_iconst (pc := 495) (v := 1) cx dL_law_495 (by decide) ?_
        refine g_istore (pc := 496) cx [(4, .int 1), (0, .ref b), (1, .ref X), (2, .ref Y), (3, .int x3)] dL_law_496 (by decide) rfl ?_
        refine g_sub [2, 3, 4, 0] [(1, .ref X), (2, .ref Y), (3, .int x3), (4, .int 1)] rfl ?_
        exact w_Lw_219_498 cx en hJ h1 sc hLb hY hrc573 FU hf
set_option maxHeartbeats 4000000 in
set_option maxRecDepth 100000 in
theorem c_L_law_219 {l : Launch} {w : Wp} {L : Ly} {E : Cx} {b X N Y : Nat} {xs : Nat → Int32} {rc573 : Mm → OR} {R0 : Int32 × Mm} (cx : Ok w L E RL cL_law 9 9) (en : EnL E b R0) {cJ : ClassId} (hJ : ArrOfT (xS E) cJ .long) (h1 : LTramWires w L X) (sc : Sc E b N xs) (hLb : L b = none) (hY : L Y = some (gJ cJ 48)) (hrc573 : ∀ (M : Mm), rc573 M = some R0 → G l w L E M [] 573 []) {M : Mm} (hf : f_L_law_219 b X N Y xs rc573 M  = some R0) : G l w L E M [(1, .ref X), (0, .ref b)] 219 [.ref Y] := by
  unfold f_L_law_219 at hf
  refine g_astore_n (pc := 219) cx [(2, .ref Y), (1, .ref X), (0, .ref b)] dL_law_219 rfl (by decide) rfl ?_
  refine g_iconst (pc := 220) (v := 0) cx dL_law_220 (by decide) ?_
  refine g_istore_n (pc := 221) cx [(3, .int 0), (2, .ref Y), (1, .ref X), (0, .ref b)] dL_law_221 rfl (by decide) rfl ?_
  refine g_iconst (pc := 222) (v := 0) cx dL_law_222 (by decide) ?_
  refine g_istore (pc := 223) cx [(4, .int 0), (3, .int 0), (2, .ref Y), (1, .ref X), (0, .ref b)] dL_law_223 (by decide) rfl ?_
  refine g_sub [4, 3, 2, 1, 0] [(0, .ref b), (1, .ref X), (2, .ref Y), (3, .int 0), (4, .int 0)] rfl ?_
  exact w_Lw_219_225 cx en hJ h1 sc hLb hY hrc573 FU hf

/-! L_law_580 -/
def b_Lw_580_676 (b X : Nat) (M : Mm) (s0 : Int32) : OR := some (s0, M)
def b_Lw_580_675 (b X : Nat) (M : Mm) : OR := b_Lw_580_676 b X M 0
def b_Lw_580_659 (b X : Nat) (M : Mm) : OR := obn (f_X8_count X M 8) fun q3 M1 => (if q3 = 90000 then b_Lw_580_676 b X M1 1 else b_Lw_580_675 b X M1)
def b_Lw_580_650 (b X : Nat) (M : Mm) : OR := obn (f_X8_undo X M) fun q3 M1 => (if q3 = 4 then b_Lw_580_659 b X M1 else b_Lw_580_675 b X M1)
def b_Lw_580_640 (b X : Nat) (M : Mm) : OR := obn (f_X8_pass X M 0) fun q3 M1 => (if q3 = (-1) then b_Lw_580_650 b X M1 else b_Lw_580_675 b X M1)
def b_Lw_580_604 (b X : Nat) (rc597 : Mm → Int32 → OR) (M : Mm) (x5 : Int32) : OR := obn (f_X8_pass X M 10000) fun q3 M1 => (if q3 = (10000 * x5) then rc597 M1 (x5 + 1) else some (0, M1))
def l_Lw_580_597 (b X : Nat) : Nat → Mm → Int32 → OR
  | 0, _, _ => none
  | k + 1, M, x5 => if 10 < x5 then obn (f_X8_pass X M 1) fun q3 M1 => (if q3 = (-3) then b_Lw_580_640 b X M1 else b_Lw_580_675 b X M1) else b_Lw_580_604 b X (l_Lw_580_597 b X k) M x5
def f_L_law_580 (b X : Nat) (M : Mm) : OR := obn (f_X8_undo X M) fun q3 M1 => (if q3 = (-2) then l_Lw_580_597 b X FU M1 1 else some (0, M1))
set_option maxHeartbeats 4000000 in
set_option maxRecDepth 100000 in
theorem w_Lw_580_676 {l : Launch} {w : Wp} {L : Ly} {E : Cx} {b X : Nat} {s0 : Int32} {R0 : Int32 × Mm} (cx : Ok w L E RL cL_law 9 9) (en : EnL E b R0) (h1 : LTramWires w L X) {M : Mm} (hf : b_Lw_580_676 b X M s0 = some R0) : G l w L E M [] 676 [.int s0] := by
  unfold b_Lw_580_676 at hf
  exact g_lawret (pc := 676) cx en dL_law_676 hf
set_option maxHeartbeats 4000000 in
set_option maxRecDepth 100000 in
theorem w_Lw_580_675 {l : Launch} {w : Wp} {L : Ly} {E : Cx} {b X : Nat} {R0 : Int32 × Mm} (cx : Ok w L E RL cL_law 9 9) (en : EnL E b R0) (h1 : LTramWires w L X) {M : Mm} (hf : b_Lw_580_675 b X M = some R0) : G l w L E M [] 675 [] := by
  unfold b_Lw_580_675 at hf
  refine g_iconst (pc := 675) (v := 0) cx dL_law_675 (by decide) ?_
  exact w_Lw_580_676 cx en h1 hf
set_option maxHeartbeats 4000000 in
set_option maxRecDepth 100000 in
theorem w_Lw_580_659 {l : Launch} {w : Wp} {L : Ly} {E : Cx} {b X : Nat} {R0 : Int32 × Mm} (cx : Ok w L E RL cL_law 9 9) (en : EnL E b R0) (h1 : LTramWires w L X) {M : Mm} (hf : b_Lw_580_659 b X M = some R0) : G l w L E M [(4, .ref X)] 659 [] := by
  unfold b_Lw_580_659 at hf
  refine g_aload (pc := 659) cx dL_law_659 0 rfl ?_
  refine g_bipush (pc := 661) (v := 8) cx dL_law_661 (by decide) ?_
  obtain ⟨q3, M1, hc2, hf⟩ := obn_some2 hf
  refine g_callVi (pc := 663) [.int 8] [] cx lk_L_13 vw_X8 (LTramWires_o h1) (by decide) (c_X8_count h1 hc2) dL_law_663 (Nat.le_of_ble_eq_true rfl) ?_
  refine g_ldc (pc := 666) cx tk_L_184 dL_law_666 ?_
  refine g_icmp_ne (pc := 668) (tgt := 675) cx dL_law_668 rfl hf (fun hf => ?_) (fun hf => ?_)
  · refine g_iconst (pc := 671) (v := 1) cx dL_law_671 (by decide) ?_
    refine g_goto (pc := 672) (tgt := 676) cx dL_law_672 rfl ?_
    refine g_sub [] [] rfl ?_
    exact w_Lw_580_676 cx en h1 hf
  · refine g_sub [] [] rfl ?_
    exact w_Lw_580_675 cx en h1 hf
set_option maxHeartbeats 4000000 in
set_option maxRecDepth 100000 in
theorem w_Lw_580_650 {l : Launch} {w : Wp} {L : Ly} {E : Cx} {b X : Nat} {R0 : Int32 × Mm} (cx : Ok w L E RL cL_law 9 9) (en : EnL E b R0) (h1 : LTramWires w L X) {M : Mm} (hf : b_Lw_580_650 b X M = some R0) : G l w L E M [(4, .ref X)] 650 [] := by
  unfold b_Lw_580_650 at hf
  refine g_aload (pc := 650) cx dL_law_650 0 rfl ?_
  obtain ⟨q3, M1, hc2, hf⟩ := obn_some2 hf
  refine g_callVi (pc := 652) [] [] cx lk_L_164 vw_X8 (LTramWires_o h1) (by decide) (c_X8_undo h1 hc2) dL_law_652 (Nat.le_of_ble_eq_true rfl) ?_
  refine g_iconst (pc := 655) (v := 4) cx dL_law_655 (by decide) ?_
  refine g_icmp_ne (pc := 656) (tgt := 675) cx dL_law_656 rfl hf (fun hf => ?_) (fun hf => ?_)
  · exact w_Lw_580_659 cx en h1 hf
  · refine g_sub [] [] rfl ?_
    exact w_Lw_580_675 cx en h1 hf
set_option maxHeartbeats 4000000 in
set_option maxRecDepth 100000 in
theorem w_Lw_580_640 {l : Launch} {w : Wp} {L : Ly} {E : Cx} {b X : Nat} {R0 : Int32 × Mm} (cx : Ok w L E RL cL_law 9 9) (en : EnL E b R0) (h1 : LTramWires w L X) {M : Mm} (hf : b_Lw_580_640 b X M = some R0) : G l w L E M [(4, .ref X)] 640 [] := by
  unfold b_Lw_580_640 at hf
  refine g_aload (pc := 640) cx dL_law_640 0 rfl ?_
  refine g_iconst (pc := 642) (v := 0) cx dL_law_642 (by decide) ?_
  obtain ⟨q3, M1, hc2, hf⟩ := obn_some2 hf
  refine g_callVi (pc := 643) [.int 0] [] cx lk_L_74 vw_X8 (LTramWires_o h1) (by decide) (c_X8_pass h1 hc2) dL_law_643 (Nat.le_of_ble_eq_true rfl) ?_
  refine g_iconst (pc := 646) (v := (-1)) cx dL_law_646 (by decide) ?_
  refine g_icmp_ne (pc := 647) (tgt := 675) cx dL_law_647 rfl hf (fun hf => ?_) (fun hf => ?_)
  · exact w_Lw_580_650 cx en h1 hf
  · refine g_sub [] [] rfl ?_
    exact w_Lw_580_675 cx en h1 hf
set_option maxHeartbeats 4000000 in
set_option maxRecDepth 100000 in
theorem w_Lw_580_604 {l : Launch} {w : Wp} {L : Ly} {E : Cx} {b X : Nat} {rc597 : Mm → Int32 → OR} {x5 : Int32} {R0 : Int32 × Mm} (cx : Ok w L E RL cL_law 9 9) (en : EnL E b R0) (h1 : LTramWires w L X) (hrc597 : ∀ (M : Mm) (x5 : Int32), rc597 M x5 = some R0 → G l w L E M [(4, .ref X), (5, .int x5)] 597 []) {M : Mm} (hf : b_Lw_580_604 b X rc597 M x5 = some R0) : G l w L E M [(4, .ref X), (5, .int x5)] 604 [] := by
  unfold b_Lw_580_604 at hf
  refine g_aload (pc := 604) cx dL_law_604 0 rfl ?_
  refine g_sipush (pc := 606) (v := 10000) cx dL_law_606 (by decide) ?_
  obtain ⟨q3, M1, hc2, hf⟩ := obn_some2 hf
  refine g_callVi (pc := 609) [.int 10000] [] cx lk_L_74 vw_X8 (LTramWires_o h1) (by decide) (c_X8_pass h1 hc2) dL_law_609 (Nat.le_of_ble_eq_true rfl) ?_
  refine g_sipush (pc := 612) (v := 10000) cx dL_law_612 (by decide) ?_
  refine g_iload (pc := 615) cx dL_law_615 1 rfl ?_
  refine g_imul (pc := 617) cx dL_law_617 ?_
  refine g_icmp_eq (pc := 618) (tgt := 623) cx dL_law_618 rfl hf (fun hf => ?_) (fun hf => ?_)
  · refine g_iinc (pc := 623) cx [(5, .int (x5 + 1)), (4, .ref X)] dL_law_623 1 rfl rfl (by decide) rfl ?_
    refine g_goto (pc := 626) (tgt := 597) cx dL_law_626 rfl ?_
    refine g_sub [1, 0] [(4, .ref X), (5, .int (x5 + 1))] rfl ?_
    exact hrc597 _ _ hf
  · refine g_iconst (pc := 621) (v := 0) cx dL_law_621 (by decide) ?_
    exact g_lawret (pc := 622) cx en dL_law_622 hf
set_option maxHeartbeats 4000000 in
set_option maxRecDepth 100000 in
theorem w_Lw_580_597 {l : Launch} {w : Wp} {L : Ly} {E : Cx} {b X : Nat} {R0 : Int32 × Mm} (cx : Ok w L E RL cL_law 9 9) (en : EnL E b R0) (h1 : LTramWires w L X) : ∀ (k : Nat) {M : Mm} {x5 : Int32}, l_Lw_580_597 b X k M x5 = some R0 → G l w L E M [(4, .ref X), (5, .int x5)] 597 [] := by
  intro k
  induction k with
  | zero =>
    intro M x5 hf
    exact absurd hf (by simp [l_Lw_580_597])
  | succ k ih =>
    intro M x5 hf
    unfold l_Lw_580_597 at hf
    refine g_iload (pc := 597) cx dL_law_597 1 rfl ?_
    refine g_bipush (pc := 599) (v := 10) cx dL_law_599 (by decide) ?_
    refine g_icmp_gt (pc := 601) (tgt := 629) cx dL_law_601 rfl hf (fun hf => ?_) (fun hf => ?_)
    · refine g_aload (pc := 629) cx dL_law_629 0 rfl ?_
      refine g_iconst (pc := 631) (v := 1) cx dL_law_631 (by decide) ?_
      obtain ⟨q3, M1, hc2, hf⟩ := obn_some2 hf
      refine g_callVi (pc := 632) [.int 1] [] cx lk_L_74 vw_X8 (LTramWires_o h1) (by decide) (c_X8_pass h1 hc2) dL_law_632 (Nat.le_of_ble_eq_true rfl) ?_
      refine g_bipush (pc := 635) (v := (-3)) cx dL_law_635 (by decide) ?_
      refine g_icmp_ne (pc := 637) (tgt := 675) cx dL_law_637 rfl hf (fun hf => ?_) (fun hf => ?_)
      · refine g_sub [0] [(4, .ref X)] rfl ?_
        exact w_Lw_580_640 cx en h1 hf
      · refine g_sub [] [] rfl ?_
        exact w_Lw_580_675 cx en h1 hf
    · exact w_Lw_580_604 cx en h1 (fun _ _ hf => ih hf) hf
set_option maxHeartbeats 4000000 in
set_option maxRecDepth 100000 in
theorem c_L_law_580 {l : Launch} {w : Wp} {L : Ly} {E : Cx} {b X : Nat} {R0 : Int32 × Mm} (cx : Ok w L E RL cL_law 9 9) (en : EnL E b R0) (h1 : LTramWires w L X) {M : Mm} (hf : f_L_law_580 b X M  = some R0) : G l w L E M [] 580 [.ref X] := by
  unfold f_L_law_580 at hf
  refine g_astore (pc := 580) cx [(4, .ref X)] dL_law_580 (by decide) rfl ?_
  refine g_aload (pc := 582) cx dL_law_582 0 rfl ?_
  obtain ⟨q3, M1, hc2, hf⟩ := obn_some2 hf
  refine g_callVi (pc := 584) [] [] cx lk_L_164 vw_X8 (LTramWires_o h1) (by decide) (c_X8_undo h1 hc2) dL_law_584 (Nat.le_of_ble_eq_true rfl) ?_
  refine g_bipush (pc := 587) (v := (-2)) cx dL_law_587 (by decide) ?_
  refine g_icmp_eq (pc := 589) (tgt := 594) cx dL_law_589 rfl hf (fun hf => ?_) (fun hf => ?_)
  · refine g_iconst (pc := 594) (v := 1) cx dL_law_594 (by decide) ?_
    refine g_istore (pc := 595) cx [(5, .int 1), (4, .ref X)] dL_law_595 (by decide) rfl ?_
    refine g_sub [1, 0] [(4, .ref X), (5, .int 1)] rfl ?_
    exact w_Lw_580_597 cx en h1 FU hf
  · refine g_iconst (pc := 592) (v := 0) cx dL_law_592 (by decide) ?_
    exact g_lawret (pc := 593) cx en dL_law_593 hf
