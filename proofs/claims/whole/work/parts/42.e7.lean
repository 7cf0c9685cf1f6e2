/-! the law's loop -/
section E7
variable {X m N : Nat} {xs : Nat → Int32}
theorem and31 (x : Int32) : x &&& 31 = x &&& 31 := rfl
theorem law_ok (b : Nat) (hN : N ≤ 2048) : ∀ f j k' (M : Mm), N < 4 * (j + f) → f < k' → 4 * j ≤ N → Q M X m → ∃ M', l_L_law_18 b X m N xs k' M (nI (4 * j)) = some (1, M') := by
  intro f
  induction f with
  | zero => intro j k' M h; omega
  | succ f ih =>
    intro j k' M hf hk' hj H
    obtain ⟨k'', rfl⟩ : ∃ x, k' = x + 1 := ⟨k' - 1, by omega⟩
    rw [l_L_law_18]
    by_cases g : 4 * j + 4 ≤ N
    · have n4 : ¬ (nI N - 4 < nI (4 * j)) := by
        rw [show (4 : Int32) = nI 4 from rfl, n_sub (by omega), n_lt (by omega) (by omega)]
        omega
      have n1 : nI (4 * j) + 1 = nI (4 * j + 1) := by rw [show (1 : Int32) = nI 1 from rfl, nI_add]
      have n2 : nI (4 * j) + 2 = nI (4 * j + 2) := by rw [show (2 : Int32) = nI 2 from rfl, nI_add]
      have n3 : nI (4 * j) + 3 = nI (4 * j + 3) := by rw [show (3 : Int32) = nI 3 from rfl, nI_add]
      have go : ∀ {F G : Mm → OR}, Same X m F G M → ∃ M', (obn (F M) fun q4 M2 => obn (G M2) fun q7 M5 => if q4 = q7 then b_L_law_668 b X m N xs (l_L_law_18 b X m N xs k'') M5 (nI (4 * j)) else zrk 0 (some (0, M5))) = some (1, M') := by
        rintro F G ⟨r, M1, M2, h1, h2, h3⟩
        obtain ⟨M', h4⟩ := ih (j + 1) k'' M2 (by omega) (by omega) (by omega) h3
        refine ⟨M', ?_⟩
        rw [h1, obn_s, h2, obn_s, if_pos rfl]
        unfold b_L_law_668
        rw [show (4 : Int32) = nI 4 from rfl, nI_add, show 4 * j + 4 = 4 * (j + 1) by omega, h4]
      have done1 : ∃ M', b_L_law_668 b X m N xs (l_L_law_18 b X m N xs k'') M (nI (4 * j)) = some (1, M') := by
        obtain ⟨M', h4⟩ := ih (j + 1) k'' M (by omega) (by omega) (by omega) H
        refine ⟨M', ?_⟩
        unfold b_L_law_668
        rw [show (4 : Int32) = nI 4 from rfl, nI_add, show 4 * j + 4 = 4 * (j + 1) by omega, h4]
      rw [if_neg n4, n_ckd (show 4 * j < N by omega) (by omega), bnd_e]
      simp only [n1, n2, n3, n_ckd (show 4 * j + 1 < N by omega) (show 4 * j + 1 < 2147483648 by omega), n_ckd (show 4 * j + 2 < N by omega) (show 4 * j + 2 < 2147483648 by omega), n_ckd (show 4 * j + 3 < N by omega) (show 4 * j + 3 < 2147483648 by omega)]
      generalize xs (ix (nI (4 * j))) &&& 31 = v
      generalize xs (ix (nI (4 * j + 1))) = y1
      generalize xs (ix (nI (4 * j + 2))) = y2
      generalize xs (ix (nI (4 * j + 3))) = y3
      by_cases g0 : v = 0
      · rw [if_pos g0]; exact go (s_section H y1 y2)
      rw [if_neg g0]
      by_cases g1 : v = 1
      · rw [if_pos g1]; exact go (s_isolator H y1 y2)
      rw [if_neg g1]
      by_cases g2 : v = 2
      · rw [if_pos g2]; exact go (s_pool H y1)
      rw [if_neg g2]
      by_cases g3 : v = 3
      · rw [if_pos g3]; exact go (s_sectionOf H y1 y2)
      rw [if_neg g3]
      by_cases g4 : v = 4
      · rw [if_pos g4]; exact go (s_isolatorOf H y1 y2)
      rw [if_neg g4]
      by_cases g5 : v = 5
      · rw [if_pos g5]; exact go (s_count H y1)
      rw [if_neg g5]
      by_cases g6 : v = 6
      · rw [if_pos g6]; exact go (s_undo H)
      rw [if_neg g6]
      by_cases g7 : v = 7
      · rw [if_pos g7]; exact go (s_refusal H y1 y2)
      rw [if_neg g7]
      by_cases g8 : v = 8
      · rw [if_pos g8]; exact go (s_step H y1 y2)
      rw [if_neg g8]
      by_cases g9 : v = 9
      · rw [if_pos g9]; exact go (s_log H y1 y2)
      rw [if_neg g9]
      by_cases g10 : v = 10
      · rw [if_pos g10]; exact go (s_plan H y1 y2)
      rw [if_neg g10]
      by_cases g11 : v = 11
      · rw [if_pos g11]; exact go (s_canPlan H y1)
      rw [if_neg g11]
      by_cases g12 : v = 12
      · rw [if_pos g12]; exact go (s_enter H y1 y2 y3)
      rw [if_neg g12]
      by_cases g13 : v = 13
      · rw [if_pos g13]; exact go (s_leave H y1 y2)
      rw [if_neg g13]
      by_cases g14 : v = 14
      · rw [if_pos g14]; exact go (s_fetch H y1)
      rw [if_neg g14]
      by_cases g15 : v = 15
      · rw [if_pos g15]; exact go (s_pass H y1)
      rw [if_neg g15]
      by_cases g16 : v = 16
      · rw [if_pos g16]; exact go (s_type H y1)
      rw [if_neg g16]
      by_cases g17 : v = 17
      · rw [if_pos g17]; exact go (s_clear H)
      rw [if_neg g17]
      by_cases g18 : v = 18
      · rw [if_pos g18]; exact go (s_fault H y1)
      rw [if_neg g18]
      by_cases g19 : v = 19
      · rw [if_pos g19]; exact go (s_play H)
      rw [if_neg g19]
      exact done1
    · refine ⟨M, ?_⟩
      by_cases h4 : 4 ≤ N
      · rw [if_pos (by rw [show (4 : Int32) = nI 4 from rfl, n_sub h4, n_lt (by omega) (by omega)]; omega)]
        rfl
      · have : nI N - 4 < nI (4 * j) := by
          rw [show j = 0 by omega]
          rcases (show N = 0 ∨ N = 1 ∨ N = 2 ∨ N = 3 by omega) with e | e | e | e <;> rw [e] <;> decide
        rw [if_pos this]
        rfl
end E7
