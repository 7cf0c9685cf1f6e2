/-! states as numbers, and steps of runs -/
def lk (D : Nat) : Sm := fun j => nI ((D >>> (20 * j)) % 1048576)
def eqD (D : Nat) (S : Sm) : Bool := (List.range 233).all fun j => decide (lk D j = S j)
def chkO (o : Int32 × Option Sm) (r : Int32) (D : Nat) : Bool := decide (o.1 = r) && (match o.2 with
  | none => false
  | some S => eqD D S)
def chkN (o : Int32 × Option Sm) (r : Int32) : Bool := decide (o.1 = r) && o.2.isNone
theorem eqD_at {D : Nat} {S : Sm} (e : eqD D S = true) : ∀ j, j < 233 → lk D j = S j := fun j hj => of_decide_eq_true (List.all_eq_true.mp e j (List.mem_range.mpr hj))
/-- an end as wanted -/
def Gd (Q : Int32 × Mm → Prop) (f : OR) : Prop := ∃ R, f = some R ∧ Q R
section GD
variable {X : Nat} {M : Mm} {S : Sm} {h : List Sm} {t : List Int32} {Q : Int32 × Mm → Prop} {f : OR} {kf : Int32 → Mm → OR}
theorem P.nrm {D : Nat} (H : P M X S h t) (e : eqD D S = true) : P M X (lk D) h t := by
  obtain ⟨h1, h2, h3, h4, h5⟩ := H
  exact ⟨(h1.c (eqD_at e)).rs, h2, h3, h4.c (eqD_at e), h5⟩
theorem Gd.ask {r : Int32} (v : Int32) (hA : Ask X S h t f M r) (he : r = v) (hk : ∀ M', P M' X S h t → Fr X M' M → Gd Q (kf v M')) : Gd Q (obn f kf) := by
  obtain ⟨M', e, H, F⟩ := hA
  rw [e, obn_s, he]
  exact hk M' H F
theorem Gd.chg {o : Int32 × Option Sm} (v : Int32) (D : Nat) (hA : Chg X S h t f M o) (hc : chkO o v D = true) (hk : ∀ M', P M' X (lk D) (push S h) t → Fr X M' M → Gd Q (kf v M')) : Gd Q (obn f kf) := by
  obtain ⟨M', e, H, F⟩ := hA
  obtain ⟨o1, o2⟩ := o
  cases o2 with
  | none => simp [chkO] at hc
  | some S' =>
    obtain ⟨hc1, hc2⟩ := (Bool.and_eq_true_iff).mp hc
    have hc1 : o1 = v := of_decide_eq_true hc1
    rw [e, obn_s]
    subst hc1
    exact hk M' (P.nrm (S := S') H hc2) F
theorem Gd.no {o : Int32 × Option Sm} (v : Int32) (hA : Chg X S h t f M o) (hc : chkN o v = true) (hk : ∀ M', P M' X S h t → Fr X M' M → Gd Q (kf v M')) : Gd Q (obn f kf) := by
  obtain ⟨M', e, H, F⟩ := hA
  obtain ⟨o1, o2⟩ := o
  cases o2 with
  | some S' => simp [chkN] at hc
  | none =>
    obtain ⟨hc1, hc2⟩ := (Bool.and_eq_true_iff).mp hc
    have hc1 : o1 = v := of_decide_eq_true hc1
    rw [e, obn_s]
    subst hc1
    exact hk M' H F
theorem t_cnt (H : P M X S h t) (i : Nat) (hi : i < 14) : Ask X S h t (f_X8_count X M (nI i)) M (aCt S 0 0 (nI i)) := by
  have := t_count H (nI i)
  rw [ct_low S _ _ hi] at this
  exact this
theorem Gd.st {kf : Int64 → Mm → OR} (H : P M X S h t) (hk : ∀ M', P M' X S h t → Fr X M' M → Gd Q (kf (hS S) M')) : Gd Q (obn (f_L_state X M) kf) := by
  obtain ⟨M', e, H, F⟩ := t_state H
  rw [e, obn_s]
  exact hk M' H F
theorem Gd.isf {a b c : Int64} {p r : Int32} (H : P M X S h t) (tt : List Int32) (ht : chs a 7 ++ (chs b 7 ++ chs c 7) = tt) (hc : tt.all (fun c => inB c 32 126) = true) (hl : tt.length ≤ 60) (hp : aFa S tt 0 = p) (hr : aFa S tt 1 = r) (hk : ∀ M', P M' X S h tt → Fr X M' M → Gd Q (kf 1 M')) : Gd Q (obn (f_L_isFault X M a b c p r) kf) := by
  obtain ⟨M', e, H, F⟩ := t_isFault H tt ht hc hl hp hr
  rw [e, obn_s]
  exact hk M' H F
theorem Gd.un {S1 : Sm} {h1 : List Sm} (v : Int32) (H : P M X S (S1 :: h1) t) (hv : nI h1.length = v) (hk : ∀ M', P M' X S1 h1 t → Fr X M' M → Gd Q (kf v M')) : Gd Q (obn (f_X8_undo X M) kf) := by
  obtain ⟨M', e, H, F⟩ := t_undo H
  rw [e, obn_s, hv]
  exact hk M' H F
theorem Gd.un0 (H : P M X S [] t) (hk : ∀ M', P M' X S [] t → Fr X M' M → Gd Q (kf (-2) M')) : Gd Q (obn (f_X8_undo X M) kf) := by
  obtain ⟨M', e, H, F⟩ := t_undo H
  rw [e, obn_s]
  exact hk M' H F
theorem Gd.cl (v : Int32) (H : P M X S h t) (hv : nI t.length = v) (hk : ∀ M', P M' X S h [] → Fr X M' M → Gd Q (kf v M')) : Gd Q (obn (f_X8_clearText X M) kf) := by
  obtain ⟨M', e, H, F⟩ := t_clear H
  rw [e, obn_s, hv]
  exact hk M' H F
theorem Gd.ty {x : Int32} (v : Int32) (t' : List Int32) (H : P M X S h t) (hv : oTy t x = (v, t')) (hk : ∀ M', P M' X S h t' → Fr X M' M → Gd Q (kf v M')) : Gd Q (obn (f_X8_type X M x) kf) := by
  obtain ⟨M', e, H, F⟩ := t_type H x
  rw [hv] at e H
  rw [e, obn_s]
  exact hk M' H F
end GD
