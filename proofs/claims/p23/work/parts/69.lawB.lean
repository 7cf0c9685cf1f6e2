/-! the law: the time and its limit -/
def T0 : Nat := 0xc0000000000
def T1 : Nat := 0x27100000c0000000000
def T2 : Nat := 0x4e200000c0000000000
def T3 : Nat := 0x75300000c0000000000
def T4 : Nat := 0x9c400000c0000000000
def T5 : Nat := 0xc3500000c0000000000
def T6 : Nat := 0xea600000c0000000000
def T7 : Nat := 0x111700000c0000000000
def T8 : Nat := 0x138800000c0000000000
def T9 : Nat := 0x15f900000c0000000000
def T10 : Nat := 0x186a00000c0000000000
def h10 : List Sm := [lk T9, lk T8, lk T7, lk T6, lk T5]
set_option maxRecDepth 100000 in
set_option maxHeartbeats 4000000 in
theorem tz_end {b X : Nat} {M : Mm} (H : P M X (lk T10) h10 []) (k : Nat) : Gd Kn1 (l_Lw_580_597 b X (k + 1) M 11) := by
  rw [l_Lw_580_597, if_pos (by decide)]
  refine Gd.no (-3) (t_pass H 1) (by decide +kernel) fun M H _ => ?_
  rw [if_pos (by decide)]
  unfold b_Lw_580_640
  refine Gd.no (-1) (t_pass H 0) (by decide +kernel) fun M H _ => ?_
  rw [if_pos (by decide)]
  unfold b_Lw_580_650
  refine Gd.un 4 (h1 := [lk T8, lk T7, lk T6, lk T5]) H rfl fun M H _ => ?_
  rw [if_pos (by decide)]
  unfold b_Lw_580_659
  refine Gd.ask 90000 (t_cnt H 8 (by decide)) (by decide +kernel) fun M H _ => ?_
  rw [if_pos (by decide)]
  unfold b_Lw_580_676
  exact ⟨_, rfl, rfl⟩
set_option maxRecDepth 100000 in
set_option maxHeartbeats 4000000 in
theorem tz_9 {b X : Nat} {M : Mm} (H : P M X (lk T9) (push (lk T8) (push (lk T7) (push (lk T6) (push (lk T5) (push (lk T4) (push (lk T3) (push (lk T2) (push (lk T1) (push (lk T0) []))))))))) []) (k : Nat) : Gd Kn1 (l_Lw_580_597 b X (k + 2) M 10) := by
  rw [l_Lw_580_597, if_neg (by decide)]
  unfold b_Lw_580_604
  refine Gd.chg 100000 T10 (t_pass H 10000) (by decide +kernel) fun M H _ => ?_
  rw [if_pos (by decide)]
  exact tz_end H k
set_option maxRecDepth 100000 in
set_option maxHeartbeats 4000000 in
theorem tz_8 {b X : Nat} {M : Mm} (H : P M X (lk T8) (push (lk T7) (push (lk T6) (push (lk T5) (push (lk T4) (push (lk T3) (push (lk T2) (push (lk T1) (push (lk T0) [])))))))) []) (k : Nat) : Gd Kn1 (l_Lw_580_597 b X (k + 3) M 9) := by
  rw [l_Lw_580_597, if_neg (by decide)]
  unfold b_Lw_580_604
  refine Gd.chg 90000 T9 (t_pass H 10000) (by decide +kernel) fun M H _ => ?_
  rw [if_pos (by decide)]
  exact tz_9 H k
set_option maxRecDepth 100000 in
set_option maxHeartbeats 4000000 in
theorem tz_7 {b X : Nat} {M : Mm} (H : P M X (lk T7) (push (lk T6) (push (lk T5) (push (lk T4) (push (lk T3) (push (lk T2) (push (lk T1) (push (lk T0) []))))))) []) (k : Nat) : Gd Kn1 (l_Lw_580_597 b X (k + 4) M 8) := by
  rw [l_Lw_580_597, if_neg (by decide)]
  unfold b_Lw_580_604
  refine Gd.chg 80000 T8 (t_pass H 10000) (by decide +kernel) fun M H _ => ?_
  rw [if_pos (by decide)]
  exact tz_8 H k
set_option maxRecDepth 100000 in
set_option maxHeartbeats 4000000 in
theorem tz_6 {b X : Nat} {M : Mm} (H : P M X (lk T6) (push (lk T5) (push (lk T4) (push (lk T3) (push (lk T2) (push (lk T1) (push (lk T0) [])))))) []) (k : Nat) : Gd Kn1 (l_Lw_580_597 b X (k + 5) M 7) := by
  rw [l_Lw_580_597, if_neg (by decide)]
  unfold b_Lw_580_604
  refine Gd.chg 70000 T7 (t_pass H 10000) (by decide +kernel) fun M H _ => ?_
  rw [if_pos (by decide)]
  exact tz_7 H k
set_option maxRecDepth 100000 in
set_option maxHeartbeats 4000000 in
theorem tz_5 {b X : Nat} {M : Mm} (H : P M X (lk T5) (push (lk T4) (push (lk T3) (push (lk T2) (push (lk T1) (push (lk T0) []))))) []) (k : Nat) : Gd Kn1 (l_Lw_580_597 b X (k + 6) M 6) := by
  rw [l_Lw_580_597, if_neg (by decide)]
  unfold b_Lw_580_604
  refine Gd.chg 60000 T6 (t_pass H 10000) (by decide +kernel) fun M H _ => ?_
  rw [if_pos (by decide)]
  exact tz_6 H k
set_option maxRecDepth 100000 in
set_option maxHeartbeats 4000000 in
theorem tz_4 {b X : Nat} {M : Mm} (H : P M X (lk T4) (push (lk T3) (push (lk T2) (push (lk T1) (push (lk T0) [])))) []) (k : Nat) : Gd Kn1 (l_Lw_580_597 b X (k + 7) M 5) := by
  rw [l_Lw_580_597, if_neg (by decide)]
  unfold b_Lw_580_604
  refine Gd.chg 50000 T5 (t_pass H 10000) (by decide +kernel) fun M H _ => ?_
  rw [if_pos (by decide)]
  exact tz_5 H k
set_option maxRecDepth 100000 in
set_option maxHeartbeats 4000000 in
theorem tz_3 {b X : Nat} {M : Mm} (H : P M X (lk T3) (push (lk T2) (push (lk T1) (push (lk T0) []))) []) (k : Nat) : Gd Kn1 (l_Lw_580_597 b X (k + 8) M 4) := by
  rw [l_Lw_580_597, if_neg (by decide)]
  unfold b_Lw_580_604
  refine Gd.chg 40000 T4 (t_pass H 10000) (by decide +kernel) fun M H _ => ?_
  rw [if_pos (by decide)]
  exact tz_4 H k
set_option maxRecDepth 100000 in
set_option maxHeartbeats 4000000 in
theorem tz_2 {b X : Nat} {M : Mm} (H : P M X (lk T2) (push (lk T1) (push (lk T0) [])) []) (k : Nat) : Gd Kn1 (l_Lw_580_597 b X (k + 9) M 3) := by
  rw [l_Lw_580_597, if_neg (by decide)]
  unfold b_Lw_580_604
  refine Gd.chg 30000 T3 (t_pass H 10000) (by decide +kernel) fun M H _ => ?_
  rw [if_pos (by decide)]
  exact tz_3 H k
set_option maxRecDepth 100000 in
set_option maxHeartbeats 4000000 in
theorem tz_1 {b X : Nat} {M : Mm} (H : P M X (lk T1) (push (lk T0) []) []) (k : Nat) : Gd Kn1 (l_Lw_580_597 b X (k + 10) M 2) := by
  rw [l_Lw_580_597, if_neg (by decide)]
  unfold b_Lw_580_604
  refine Gd.chg 20000 T2 (t_pass H 10000) (by decide +kernel) fun M H _ => ?_
  rw [if_pos (by decide)]
  exact tz_2 H k
set_option maxRecDepth 100000 in
set_option maxHeartbeats 4000000 in
theorem tz_0 {b X : Nat} {M : Mm} (H : P M X (lk T0) [] []) (k : Nat) : Gd Kn1 (l_Lw_580_597 b X (k + 11) M 1) := by
  rw [l_Lw_580_597, if_neg (by decide)]
  unfold b_Lw_580_604
  refine Gd.chg 10000 T1 (t_pass H 10000) (by decide +kernel) fun M H _ => ?_
  rw [if_pos (by decide)]
  exact tz_1 H k
/-- the end of the law: the time has its limit -/
theorem lw_580 {b X : Nat} {M : Mm} (H : P M X S00 [] []) : Gd Kn1 (f_L_law_580 b X M) := by
  unfold f_L_law_580
  refine Gd.un0 H fun M H _ => ?_
  rw [if_pos (by decide)]
  exact tz_0 (H.nrm (D := T0) (by decide +kernel)) 3989
