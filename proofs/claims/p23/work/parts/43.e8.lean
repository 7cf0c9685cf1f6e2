/-! at the start; the law's own sum of a state -/
section E8
variable {M : Mm} {X : Nat}
def S00 : Sm := fun j => if j = 2 then nI 12 else nI 0
theorem p_start (h0 : ∀ b j, X + 2 ≤ b → b < X + 24 → ¬ (b = X + 9 ∧ j = 1) → M b j = nI 0) (h12 : M (X + 9) 1 = nI 12) (hh : M (X + 33) 0 = nI 0) (hp : ∀ t, t < 5 → M (X + 34) t = nI t) (ht : M (X + 195) 0 = nI 0) : P M X S00 [] [] := by
  have S0 : ∀ j, j ≠ 2 → S00 j = nI 0 := fun j hj => by unfold S00; rw [if_neg hj]
  have S2 : S00 2 = nI 12 := rfl
  have hW : RW M (X + 1) S00 0 0 0 := by
    refine ⟨⟨⟨S0 0 (by omega), by omega, S0 1 (by omega), by omega, S0 5 (by omega), by omega⟩, fun i hi => by omega, fun s hs => by omega, fun j hj => by omega⟩,
      ⟨⟨⟨by omega, by omega, h0 _ _ (by omega) (by omega) (by omega), h0 _ _ (by omega) (by omega) (by omega)⟩, fun s hs => by omega, fun i hi => by omega⟩, ⟨fun s => s, fun s hs => by omega⟩, fun s hs => ?_⟩,
      ⟨⟨?_, ?_, ?_⟩, fun s hs => by omega, fun s h1 h2 => ⟨?_, ?_, ?_, ?_⟩⟩, ⟨⟨?_, ?_⟩, fun j hj => by omega, fun s hs => by omega, fun i hi => by omega⟩⟩
    · rw [h0 _ _ (by omega) (by omega) (by omega)]
      unfold nlv
      simp
      rfl
    · rw [h0 _ _ (by omega) (by omega) (by omega), S0 3 (by omega)]
    · rw [S2]; exact h12
    · rw [h0 _ _ (by omega) (by omega) (by omega), S0 6 (by omega)]
    · rw [h0 _ _ (by omega) (by omega) (by omega)]; rfl
    · rw [h0 _ _ (by omega) (by omega) (by omega)]; rfl
    · rw [h0 _ _ (by omega) (by omega) (by omega)]; rfl
    · rw [h0 _ _ (by omega) (by omega) (by omega)]
    · rw [h0 _ _ (by omega) (by omega) (by omega), S0 4 (by omega)]
    · rw [h0 _ _ (by omega) (by omega) (by omega)]
  refine ⟨hW.rs, ⟨⟨hh, by simp⟩, fun t => t, fun t h => ⟨hp t h, h⟩, fun s t _ _ e => e, fun t h => absurd h (by simp)⟩, ⟨by simp, ht, fun j hj => absurd hj (by simp)⟩, ⟨⟨0, by omega, S0 3 (by omega)⟩, fun s hs hb => ?_⟩, fun S' h => absurd h List.not_mem_nil⟩
  unfold bS aO at hb
  rw [S0 _ (by omega)] at hb
  exact absurd (of_decide_eq_true hb) (by decide)
end E8
def hsh (g : Nat → Int32) : Nat → Int64 → Int64
  | 0, a => a
  | i + 1, a => 31 * hsh g i a + (g i).toInt64
def hS1 (S : Sm) : Int64 := hsh (fun i => aCt S 0 0 (nI i)) 14 6
def hS2 (S : Sm) : Int64 := hsh (fun i => aSe S (nI (i / 11)) (nI (i % 11))) (11 * nn S) (hS1 S)
def hS3 (S : Sm) : Int64 := hsh (fun i => aIs S (nI (i / 6)) (nI (i % 6))) (6 * kn S) (hS2 S)
def hS (S : Sm) : Int64 := hsh (fun i => aLo S (nI (i / 3)) (nI (i % 3))) (3 * qn S) (hS3 S)
section E9
variable {M : Mm} {X : Nat} {S : Sm} {h : List Sm} {t : List Int32}
theorem d11 : ∀ i, i < 110 → nI i / 11 = nI (i / 11) ∧ jrem (nI i) 11 = nI (i % 11) := by decide +kernel
theorem d6 : ∀ i, i < 96 → nI i / 6 = nI (i / 6) ∧ jrem (nI i) 6 = nI (i % 6) := by decide +kernel
theorem d3 : ∀ i, i < 72 → nI i / 3 = nI (i / 3) ∧ jrem (nI i) 3 = nI (i % 3) := by decide +kernel
theorem mixed_ok (M : Mm) (a b : Int64) : f_L_mixed M a b = some (31 * a + b, M) := rfl
theorem ct_low (S : Sm) (d z : Nat) {i : Nat} (hi : i < 14) : aCt S d z (nI i) = aCt S 0 0 (nI i) := by
  unfold aCt
  rw [if_neg (show ¬ nI i = 14 by rw [show (14 : Int32) = nI 14 from rfl, n_eq (by omega) (by omega)]; omega), if_neg (show ¬ nI i = 15 by rw [show (15 : Int32) = nI 15 from rfl, n_eq (by omega) (by omega)]; omega)]
  rw [if_neg (show ¬ nI i = 14 by rw [show (14 : Int32) = nI 14 from rfl, n_eq (by omega) (by omega)]; omega), if_neg (show ¬ nI i = 15 by rw [show (15 : Int32) = nI 15 from rfl, n_eq (by omega) (by omega)]; omega)]
theorem hsh_0 (g : Nat → Int32) (a : Int64) : hsh g 0 a = a := rfl
theorem hS_1 (S : Sm) : hsh (fun i => aCt S 0 0 (nI i)) 14 6 = hS1 S := rfl
theorem hS_2 (S : Sm) : hsh (fun i => aSe S (nI (i / 11)) (nI (i % 11))) (11 * nn S) (hS1 S) = hS2 S := rfl
theorem hS_3 (S : Sm) : hsh (fun i => aIs S (nI (i / 6)) (nI (i % 6))) (6 * kn S) (hS2 S) = hS3 S := rfl
theorem hS_4 (S : Sm) : hsh (fun i => aLo S (nI (i / 3)) (nI (i % 3))) (3 * qn S) (hS3 S) = hS S := rfl
theorem hsh_s (g : Nat → Int32) (i : Nat) (a : Int64) : 31 * hsh g i a + (g i).toInt64 = hsh g (i + 1) a := rfl
theorem ct0 (S : Sm) (d z : Nat) : aCt S d z 0 = nI (nn S) := rfl
theorem ct1 (S : Sm) (d z : Nat) : aCt S d z 1 = nI (kn S) := rfl
theorem ct10 (S : Sm) (d z : Nat) : aCt S d z 10 = nI (qn S) := rfl
theorem sm_107 : ∀ f i k (M : Mm), i + f = 3 * qn S → f < k → P M X S h t → ∃ M', l_L_state_107 X k M (hsh (fun i => aLo S (nI (i / 3)) (nI (i % 3))) i (hS3 S)) (nI i) = some (hS S, M') ∧ P M' X S h t ∧ Fr X M' M := by
  intro f
  induction f with
  | zero =>
    intro i k M hi hk H
    obtain ⟨k, rfl⟩ : ∃ x, k = x + 1 := ⟨k - 1, by omega⟩
    have hq := H.1.1.1.2.2.2.2.2
    obtain ⟨M1, e1, H1, F1⟩ := t_count H 10
    refine ⟨M1, ?_, H1, F1⟩
    rw [l_L_state_107, e1, obn_s, ct10, show (3 : Int32) = nI 3 from rfl, n_mul, if_neg (by rw [n_lt (by omega) (by omega)]; omega), show i = 3 * qn S by omega, hS_4]
  | succ f ih =>
    intro i k M hi hk H
    obtain ⟨k, rfl⟩ : ∃ x, k = x + 1 := ⟨k - 1, by omega⟩
    have hq := H.1.1.1.2.2.2.2.2
    obtain ⟨d1, d2⟩ := d3 i (by omega)
    obtain ⟨M1, e1, H1, F1⟩ := t_count H 10
    obtain ⟨M2, e2, H2, F2⟩ := t_log H1 (nI (i / 3)) (nI (i % 3))
    obtain ⟨M', e3, H3, F3⟩ := ih (i + 1) k M2 (by omega) (by omega) H2
    refine ⟨M', ?_, H3, F3.tr (F2.tr F1)⟩
    rw [l_L_state_107, e1, obn_s, ct10, if_pos (by rw [show (3 : Int32) = nI 3 from rfl, n_mul, n_lt (by omega) (by omega)]; omega), d1, d2, e2, obn_s, mixed_ok, obn_s, show (1 : Int32) = nI 1 from rfl, nI_add]
    exact e3
theorem sm_69 : ∀ f i k (M : Mm), i + f = 6 * kn S → f < k → P M X S h t → ∃ M', l_L_state_69 X k M (hsh (fun i => aIs S (nI (i / 6)) (nI (i % 6))) i (hS2 S)) (nI i) = some (hS S, M') ∧ P M' X S h t ∧ Fr X M' M := by
  intro f
  induction f with
  | zero =>
    intro i k M hi hk H
    obtain ⟨k, rfl⟩ : ∃ x, k = x + 1 := ⟨k - 1, by omega⟩
    have hq := H.1.klow
    have hq2 := H.1.1.1.2.2.2.2.2
    obtain ⟨M1, e1, H1, F1⟩ := t_count H 1
    obtain ⟨M', e3, H3, F3⟩ := sm_107 (S := S) (h := h) (t := t) (3 * qn S) 0 FU M1 (by omega) (by show _ < 4000; omega) H1
    refine ⟨M', ?_, H3, F3.tr F1⟩
    rw [l_L_state_69, e1, obn_s, ct1, if_neg (by rw [show (6 : Int32) = nI 6 from rfl, n_mul, n_lt (by omega) (by omega)]; omega), show i = 6 * kn S by omega, hS_3]
    rw [hsh_0] at e3
    exact e3
  | succ f ih =>
    intro i k M hi hk H
    obtain ⟨k, rfl⟩ : ∃ x, k = x + 1 := ⟨k - 1, by omega⟩
    have hq := H.1.klow
    obtain ⟨d1, d2⟩ := d6 i (by omega)
    obtain ⟨M1, e1, H1, F1⟩ := t_count H 1
    obtain ⟨M2, e2, H2, F2⟩ := t_isolatorOf H1 (nI (i / 6)) (nI (i % 6))
    obtain ⟨M', e3, H3, F3⟩ := ih (i + 1) k M2 (by omega) (by omega) H2
    refine ⟨M', ?_, H3, F3.tr (F2.tr F1)⟩
    rw [l_L_state_69, e1, obn_s, ct1, if_pos (by rw [show (6 : Int32) = nI 6 from rfl, n_mul, n_lt (by omega) (by omega)]; omega), d1, d2, e2, obn_s, mixed_ok, obn_s, show (1 : Int32) = nI 1 from rfl, nI_add]
    exact e3
theorem sm_31 : ∀ f i k (M : Mm), i + f = 11 * nn S → f < k → P M X S h t → ∃ M', l_L_state_31 X k M (hsh (fun i => aSe S (nI (i / 11)) (nI (i % 11))) i (hS1 S)) (nI i) = some (hS S, M') ∧ P M' X S h t ∧ Fr X M' M := by
  intro f
  induction f with
  | zero =>
    intro i k M hi hk H
    obtain ⟨k, rfl⟩ : ∃ x, k = x + 1 := ⟨k - 1, by omega⟩
    have hq := H.1.nlow
    have hq2 := H.1.klow
    obtain ⟨M1, e1, H1, F1⟩ := t_count H 0
    obtain ⟨M', e3, H3, F3⟩ := sm_69 (S := S) (h := h) (t := t) (6 * kn S) 0 FU M1 (by omega) (by show _ < 4000; omega) H1
    refine ⟨M', ?_, H3, F3.tr F1⟩
    rw [l_L_state_31, e1, obn_s, ct0, if_neg (by rw [show (11 : Int32) = nI 11 from rfl, n_mul, n_lt (by omega) (by omega)]; omega), show i = 11 * nn S by omega, hS_2]
    rw [hsh_0] at e3
    exact e3
  | succ f ih =>
    intro i k M hi hk H
    obtain ⟨k, rfl⟩ : ∃ x, k = x + 1 := ⟨k - 1, by omega⟩
    have hq := H.1.nlow
    obtain ⟨d1, d2⟩ := d11 i (by omega)
    obtain ⟨M1, e1, H1, F1⟩ := t_count H 0
    obtain ⟨M2, e2, H2, F2⟩ := t_sectionOf H1 (nI (i / 11)) (nI (i % 11))
    obtain ⟨M', e3, H3, F3⟩ := ih (i + 1) k M2 (by omega) (by omega) H2
    refine ⟨M', ?_, H3, F3.tr (F2.tr F1)⟩
    rw [l_L_state_31, e1, obn_s, ct0, if_pos (by rw [show (11 : Int32) = nI 11 from rfl, n_mul, n_lt (by omega) (by omega)]; omega), d1, d2, e2, obn_s, mixed_ok, obn_s, show (1 : Int32) = nI 1 from rfl, nI_add]
    exact e3
theorem sm_6 : ∀ f i k (M : Mm), i + f = 14 → f < k → P M X S h t → ∃ M', l_L_state_6 X k M (hsh (fun i => aCt S 0 0 (nI i)) i 6) (nI i) = some (hS S, M') ∧ P M' X S h t ∧ Fr X M' M := by
  intro f
  induction f with
  | zero =>
    intro i k M hi hk H
    obtain ⟨k, rfl⟩ : ∃ x, k = x + 1 := ⟨k - 1, by omega⟩
    have hq := H.1.nlow
    obtain ⟨M', e3, H3, F3⟩ := sm_31 (S := S) (h := h) (t := t) (11 * nn S) 0 FU M (by omega) (by show _ < 4000; omega) H
    refine ⟨M', ?_, H3, F3⟩
    rw [l_L_state_6, show i = 14 by omega, if_neg (by decide), hS_1]
    rw [hsh_0] at e3
    exact e3
  | succ f ih =>
    intro i k M hi hk H
    obtain ⟨k, rfl⟩ : ∃ x, k = x + 1 := ⟨k - 1, by omega⟩
    obtain ⟨M1, e1, H1, F1⟩ := t_count H (nI i)
    obtain ⟨M', e3, H3, F3⟩ := ih (i + 1) k M1 (by omega) (by omega) H1
    refine ⟨M', ?_, H3, F3.tr F1⟩
    rw [l_L_state_6, if_pos (by rw [show (14 : Int32) = nI 14 from rfl, n_lt (by omega) (by omega)]; omega), e1, obn_s, mixed_ok, obn_s, ct_low S _ _ (by omega), show (1 : Int32) = nI 1 from rfl, nI_add]
    exact e3
/-- the law's own sum of all that can be seen -/
theorem t_state (H : P M X S h t) : ∃ M', f_L_state X M = some (hS S, M') ∧ P M' X S h t ∧ Fr X M' M := by
  obtain ⟨M', e3, H3, F3⟩ := sm_6 (S := S) (h := h) (t := t) 14 0 FU M (by omega) (by show _ < 4000; omega) H
  refine ⟨M', ?_, H3, F3⟩
  rw [hsh_0] at e3
  exact e3
end E9
