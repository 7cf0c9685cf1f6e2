/-! characters written by the law; a text's fault asked for -/
section R2
variable {M : Mm} {X : Nat} {S : Sm} {h : List Sm} {t : List Int32}
def byt (w : Int64) (x : Int32) : Int32 := Int64.toInt32 ((w >>> (Int32.toInt64 (8 * x) &&& 63)) &&& 255)
def one (w : Int64) (i : Nat) : List Int32 := if byt w (nI i) = 0 then [] else [byt w (nI i)]
def chs (w : Int64) : Nat → List Int32
  | 0 => one w 0
  | i + 1 => one w (i + 1) ++ chs w i
theorem t_typeYes (H : P M X S h t) {x : Int32} (e : inB x 32 126 = true) (hl : t.length < 60) : ∃ M', f_X8_type X M x = some (nI (t.length + 1), M') ∧ P M' X S h (t ++ [x]) ∧ Fr X M' M := by
  have a := t_type H x
  rw [show oTy t x = (nI (t.length + 1), t ++ [x]) by unfold oTy; rw [if_pos e, if_neg (by omega)]] at a
  exact a
theorem ty_one (w : Int64) {rc : Mm → Int32 → OR} {M0 : Mm} (i : Nat) (hc : ∀ c ∈ one w i, inB c 32 126 = true) (hl : t.length + (one w i).length ≤ 60) (H : P M X S h t) (F : Fr X M M0) {R : Mm → Prop}
    (go : ∀ M1, P M1 X S h (t ++ one w i) → Fr X M1 M0 → ∃ M', rc M1 (nI i + (-1)) = some (0, M') ∧ R M') : ∃ M', (bnd (Int64.toInt32 ((w >>> (Int32.toInt64 (8 * nI i) &&& 63)) &&& 255)) fun v1 => if v1 = 0 then b_L_types_32 X rc M w (nI i) else obn (f_X8_type X M v1) fun q4 M2 => (b_L_types_32 X rc M2 w (nI i))) = some (0, M') ∧ R M' := by
  rw [bnd_e, show Int64.toInt32 ((w >>> (Int32.toInt64 (8 * nI i) &&& 63)) &&& 255) = byt w (nI i) from rfl]
  unfold one at hc hl go
  unfold b_L_types_32
  by_cases g : byt w (nI i) = 0
  · rw [if_pos g, List.append_nil] at go
    obtain ⟨M', e, r⟩ := go M H F
    exact ⟨M', by rw [if_pos g]; exact e, r⟩
  · rw [if_neg g] at go hc hl
    obtain ⟨M1, e1, H1, F1⟩ := t_typeYes H (hc _ (List.mem_singleton.mpr rfl)) (by have : [byt w (nI i)].length = 1 := rfl; omega)
    obtain ⟨M', e, r⟩ := go M1 H1 (F1.tr F)
    exact ⟨M', by rw [if_neg g, e1, obn_s]; exact e, r⟩
theorem ty_3 (w : Int64) : ∀ i k (M : Mm) (t : List Int32), i + 1 < k → i < 100 → P M X S h t → (∀ c ∈ chs w i, inB c 32 126 = true) → t.length + (chs w i).length ≤ 60 → ∃ M', l_L_types_3 X w k M (nI i) = some (0, M') ∧ P M' X S h (t ++ chs w i) ∧ Fr X M' M := by
  intro i
  induction i with
  | zero =>
    intro k M t hk hi H hc hl
    obtain ⟨k, rfl⟩ : ∃ x, k = x + 2 := ⟨k - 2, by omega⟩
    rw [l_L_types_3, if_neg (by decide)]
    refine ty_one (t := t) w 0 hc hl H Fr.rf (R := fun M' => P M' X S h (t ++ chs w 0) ∧ Fr X M' M) fun M1 H1 F1 => ⟨M1, ?_, H1, F1⟩
    rw [l_L_types_3, if_pos (by decide)]
  | succ i ih =>
    intro k M t hk hi H hc hl
    obtain ⟨k, rfl⟩ : ∃ x, k = x + 1 := ⟨k - 1, by omega⟩
    have hl2 : (chs w (i + 1)).length = (one w (i + 1)).length + (chs w i).length := by rw [chs, List.length_append]
    rw [l_L_types_3, if_neg (by rw [show (0 : Int32) = nI 0 from rfl, n_lt (by omega) (by omega)]; omega)]
    refine ty_one (t := t) w (i + 1) (fun c h => hc c (by rw [chs]; exact List.mem_append_left _ h)) (by omega) H Fr.rf (R := fun M' => P M' X S h (t ++ chs w (i + 1)) ∧ Fr X M' M) fun M1 H1 F1 => ?_
    obtain ⟨M', e, H2, F2⟩ := ih k M1 _ (by omega) (by omega) H1 (fun c h => hc c (by rw [chs]; exact List.mem_append_right _ h)) (by rw [List.length_append]; omega)
    refine ⟨M', ?_, ?_, F2.tr F1⟩
    · rw [show nI (i + 1) + (-1) = nI i by rw [← nI_add]; show nI i + 1 + (-1) = nI i; rw [Int32.add_assoc]; show nI i + 0 = nI i; simp]
      exact e
    · rw [chs, ← List.append_assoc]
      exact H2
theorem t_types (w : Int64) (H : P M X S h t) (hc : ∀ c ∈ chs w 7, inB c 32 126 = true) (hl : t.length + (chs w 7).length ≤ 60) : ∃ M', f_L_types X M w = some (0, M') ∧ P M' X S h (t ++ chs w 7) ∧ Fr X M' M :=
  ty_3 w 7 FU M t (by show _ < 4000; omega) (by omega) H hc hl
theorem t_isFault (H : P M X S h t) {a b c : Int64} {p r : Int32} (tt : List Int32) (ht : chs a 7 ++ (chs b 7 ++ chs c 7) = tt) (hc : tt.all (fun c => inB c 32 126) = true) (hl : tt.length ≤ 60) (hp : aFa S tt 0 = p) (hr : aFa S tt 1 = r) :
    ∃ M', f_L_isFault X M a b c p r = some (1, M') ∧ P M' X S h tt ∧ Fr X M' M := by
  have hc : ∀ x ∈ tt, inB x 32 126 = true := List.all_eq_true.mp hc
  rw [← ht] at hc hl
  simp only [List.length_append] at hl
  obtain ⟨M1, e1, H1, F1⟩ := t_clear H
  obtain ⟨M2, e2, H2, F2⟩ := t_types a H1 (fun x hx => hc x (List.mem_append_left _ hx)) (by simp only [List.length_append, List.length_nil]; omega)
  obtain ⟨M3, e3, H3, F3⟩ := t_types b H2 (fun x hx => hc x (List.mem_append_right _ (List.mem_append_left _ hx))) (by simp only [List.length_append, List.length_nil]; omega)
  obtain ⟨M4, e4, H4, F4⟩ := t_types c H3 (fun x hx => hc x (List.mem_append_right _ (List.mem_append_right _ hx))) (by simp only [List.length_append, List.length_nil]; omega)
  have et : [] ++ chs a 7 ++ chs b 7 ++ chs c 7 = tt := by rw [← ht, List.nil_append, List.append_assoc]
  rw [et] at H4
  obtain ⟨M5, e5, H5, F5⟩ := t_fault H4 0
  obtain ⟨M6, e6, H6, F6⟩ := t_fault H5 1
  refine ⟨M6, ?_, H6, F6.tr (F5.tr (F4.tr (F3.tr (F2.tr F1))))⟩
  unfold f_L_isFault
  rw [e1, obn_s, e2, obn_s, e3, obn_s, e4, obn_s, e5, obn_s, if_pos hp, e6, obn_s, if_pos hr]
  unfold b_L_isFault_46
  exact zrk_1 _
end R2
