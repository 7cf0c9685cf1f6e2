/-! the walk of the three sections -/
def D0 : Nat := 0xc0000000000
def D1 : Nat := 0x10000000000000000000000000000000000200005000000000000000000000000c0000000001
def D2 : Nat := 0x5000010000000000000000000000000000000000200005000000000000000000000000c0000000002
def D3 : Nat := 0x5000000000000000000000000000000000000000000005000010000000000000000000000000000000000200005000000000000000000000000c0000000003
def D4 : Nat := 0x1000010000100000000000000000000000000000000000000000000000000000000000000000000000000000000000000000000000000000000000000000000000000000000000000000000000000000000000000000000000000000000000000000000000000000000000000000000000000000000000000000000000000000000000000000000000000000000000000000000000000000000000000000000000000000000000000000000000000000000000000000000000000005000000000000000000000000000000000000000000005000010000000000000000000000000000000000200005000000000000000000000000c0000100003
def D5 : Nat := 0x100001000020000100001000010000100000000000000000000000000000000000000000000000000000000000000000000000000000000000000000000000000000000000000000000000000000000000000000000000000000000000000000000000000000000000000000000000000000000000000000000000000000000000000000000000000000000000000000000000000000000000000000000000000000000000000000000000000000000000000000000000000000000000000000000000000005000000000000000000000000000000000000000000005000010000000000000000000000000000000000200005000000000000000000000000c0000200003
def h3 : List Sm := [lk D4, lk D3, lk D2, lk D1, lk D0]
def Kn1 (R : Int32 × Mm) : Prop := R.1 = 1
def Kn3 (X : Nat) (R : Int32 × Mm) : Prop := R.1 = 0 ∧ P R.2 X (lk D5) h3 []
set_option maxRecDepth 100000 in
set_option maxHeartbeats 4000000 in
theorem ke_66 {X : Nat} {M : Mm} (H : P M X (lk D5) (push (lk D4) (push (lk D3) (push (lk D2) (push (lk D1) (push (lk D0) []))))) []) : Gd (Kn3 X) (b_L_three_66 X M) := by
  unfold b_L_three_66
  exact ⟨_, rfl, rfl, H⟩
set_option maxRecDepth 100000 in
set_option maxHeartbeats 4000000 in
theorem ke_61 {X : Nat} {M : Mm} (H : P M X (lk D5) (push (lk D4) (push (lk D3) (push (lk D2) (push (lk D1) (push (lk D0) []))))) []) : Gd (Kn3 X) (b_L_three_61 X M 1) := by
  unfold b_L_three_61
  rw [if_neg (by decide)]
  exact ke_66 H
set_option maxRecDepth 100000 in
set_option maxHeartbeats 4000000 in
theorem ke_46 {X : Nat} {M : Mm} (H : P M X (lk D4) (push (lk D3) (push (lk D2) (push (lk D1) (push (lk D0) [])))) []) : Gd (Kn3 X) (b_L_three_46 X M) := by
  unfold b_L_three_46
  refine Gd.chg 1 D5 (t_isolator H 1 2) (by decide +kernel) fun M H _ => ?_
  rw [if_pos (by decide)]
  exact ke_61 H
set_option maxRecDepth 100000 in
set_option maxHeartbeats 4000000 in
theorem ke_37 {X : Nat} {M : Mm} (H : P M X (lk D3) (push (lk D2) (push (lk D1) (push (lk D0) []))) []) : Gd (Kn3 X) (b_L_three_37 X M) := by
  unfold b_L_three_37
  refine Gd.chg 0 D4 (t_isolator H 0 1) (by decide +kernel) fun M H _ => ?_
  rw [if_pos (by decide)]
  exact ke_46 H
set_option maxRecDepth 100000 in
set_option maxHeartbeats 4000000 in
theorem ke_27 {X : Nat} {M : Mm} (H : P M X (lk D2) (push (lk D1) (push (lk D0) [])) []) : Gd (Kn3 X) (b_L_three_27 X M) := by
  unfold b_L_three_27
  refine Gd.chg 2 D3 (t_section H 5 0) (by decide +kernel) fun M H _ => ?_
  rw [if_pos (by decide)]
  exact ke_37 H
set_option maxRecDepth 100000 in
set_option maxHeartbeats 4000000 in
theorem ke_17 {X : Nat} {M : Mm} (H : P M X (lk D1) (push (lk D0) []) []) : Gd (Kn3 X) (b_L_three_17 X M) := by
  unfold b_L_three_17
  refine Gd.chg 1 D2 (t_section H 5 0) (by decide +kernel) fun M H _ => ?_
  rw [if_pos (by decide)]
  exact ke_27 H
set_option maxRecDepth 100000 in
set_option maxHeartbeats 4000000 in
theorem ke_7 {X : Nat} {M : Mm} (H : P M X (lk D0) [] []) : Gd (Kn3 X) (f_L_three_7 X M) := by
  unfold f_L_three_7
  refine Gd.chg 0 D1 (t_section H 5 1) (by decide +kernel) fun M H _ => ?_
  rw [if_pos (by decide)]
  exact ke_17 H
