/-! the law: the numbers drawn from the script, and its first and last stretches -/
section LA
variable {X : Nat} {M : Mm} {S : Sm} {h : List Sm} {t : List Int32} {Q : Int32 × Mm → Prop} {kf : Int32 → Mm → OR}
theorem n_rem {a d : Nat} (ha : a < 2147483648) (h0 : 0 < d) (hd : d < 2147483648) : jrem (nI a) (nI d) = nI (a % d) := pk_rem ha h0 hd
theorem and_pos (x : Int32) : ∃ s, s < 2147483648 ∧ x &&& 2147483647 = nI s := by
  refine nI_of fun h => ?_
  rw [Int32.lt_iff_toInt_lt] at h
  have h0 : (0 : Int32).toInt = 0 := rfl
  have e : (x &&& 2147483647).toInt = ((x &&& 2147483647).toBitVec).toInt := rfl
  have m : ((x &&& 2147483647 : Int32).toBitVec).msb = false := by
    rw [Int32.toBitVec_and, BitVec.msb_and, show (2147483647 : Int32).toBitVec.msb = false from by decide, Bool.and_false]
  rw [e, BitVec.toInt_eq_toNat_of_msb m, h0] at h
  omega
theorem dvk_n {m : Nat} {A : OR} (h0 : 0 < m) (hm : m < 1000) : dvk (nI m) A = A := by
  unfold dvk
  rw [if_neg (by rw [show (0 : Int32) = nI 0 from rfl, n_eq (by omega) (by omega)]; omega)]
theorem Gd.part {x : Int32} (m : Nat) (h0 : 0 < m) (hm : m < 1000) (hk : ∀ r, r < m → Gd Q (kf (nI r) M)) : Gd Q (obn (f_L_part M x (nI m)) kf) := by
  obtain ⟨s, hs, e⟩ := and_pos x
  unfold f_L_part
  rw [dvk_n h0 hm, obn_s, e, n_rem hs h0 (by omega)]
  exact hk _ (Nat.mod_lt _ h0)
theorem Gd.take {b N : Nat} {xs : Nat → Int32} (k : Nat) (hk : k < 1000) (hN : N < 1000) (hc : ∀ v, Gd Q (kf v M)) : Gd Q (obn (f_L_take b N xs M (nI k)) kf) := by
  unfold f_L_take b_L_take_39
  by_cases h0 : N = 0
  · rw [if_pos (by rw [h0]; rfl), obn_s]
    exact hc _
  · rw [if_neg (by rw [show (0 : Int32) = nI 0 from rfl, n_eq (by omega) (by omega)]; exact h0), dvk_n (by omega) (by omega), n_rem (by omega) (by omega) (by omega), n_ckd (Nat.mod_lt _ (by omega)) (by have := Nat.mod_lt k (show 0 < N by omega); omega), dvk_n (by omega) (by omega), obn_s]
    exact hc _
/-- a new object is refused nothing that the document would not refuse -/
theorem lw_19 {b N : Nat} {xs : Nat → Int32} (H : P M X S h t) : Gd Kn1 (f_L_law_19 b X N xs (fun M => some (1, M)) M) := by
  unfold f_L_law_19
  refine Gd.ask 1 (t_refused H) rfl fun M1 _ _ => ?_
  rw [if_neg (by decide)]
  exact ⟨_, rfl, rfl⟩
end LA
