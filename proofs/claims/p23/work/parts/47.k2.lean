section GN2
variable {l : Launch} {w : Wp} {L : Ly} {E : Cx} {M : Mm} {lv : List (Nat × Value)} {pc : Nat} {st : List Value} {own : String} {cc : ByteArray} {maxL n : Nat} {h0 sz cells slots : Nat} {P : va_W}
theorem set_fst {q0 a b : Nat} {e0 e : va_E} (h : P[q0]? = some (a, e0)) (h1 : ∀ x ∈ P.set q0 (a, e), x.1 ≠ b) : ∀ x ∈ P, x.1 ≠ b := by
  intro x hx
  obtain ⟨j, hj⟩ := List.getElem?_of_mem hx
  have hq := (List.getElem?_eq_some_iff.mp h).1
  by_cases c : j = q0
  · subst c
    rw [hj] at h
    cases h
    exact h1 (a, e) (List.mem_of_getElem? (i := j) (List.getElem?_set_self hq))
  · exact h1 x (List.mem_of_getElem? (i := j) (by rw [List.getElem?_set_ne (Ne.symm c)]; exact hj))
theorem n_putF (cx : OkN w E own cc maxL n h0) {a ci N index : Nat} {C ref : String} {T : u_T} (hc : vwCl[ci]? = some (C, T, N)) (hin : ∀ q ∈ u_ws C T N, q ∈ TB) (ty0 : Nat → FieldType) (hty : ∀ k, k < N → parseFieldDescriptor (T k).2.2.1 = some (ty0 k)) (hnm : ∀ a, a < N → ∀ b, b < N → a ≠ b → (T a).2.1 ≠ (T b).2.1)
    (hD : va_D (xF E) P) (q0 : Nat) {fs : List Value} (he : P[q0]? = some (a, .inr (ci, fs))) (k : Nat) (hk : k < N) (hlink : Cond.fieldLink own index ref (T k).2.1 (T k).2.2.1 ∈ TB) (hsame : (T k).1 = ref) (hfin : (T k).2.2.2 = true) (hin2 : (xY E).name = "<init>") (hdecl : (T k).1 = own) {ty : FieldType} {v : Value} (hd0 : parseFieldDescriptor (T k).2.2.1 = some ty) (hn : narrow ty v = v) (hfit : fits ty v = true) (hl : k < fs.length)
    (hd : decode cc pc = .ok (.putfield index, 3)) (kk : GN l w L E M h0 sz (P.set q0 (a, .inr (ci, fs.set k v))) cells slots lv (pc + 3) st) : GN l w L E M h0 sz P cells slots lv pc (v :: .ref a :: st) := by
  intro H locs ls h1 h2 h3 h4 h5
  have hts := cx.2.2.2.2.1
  have hap := va_apart (own := own) hts hin ty0 hty hnm cx.2.2.2.2.2.1.1 hc
  obtain ⟨r, r1, cell, q1, q2, q3, q4⟩ := h2 q0 _ he
  have hr : r = (C, T, N) := Option.some.inj (r1.symm.trans hc)
  subst hr
  obtain ⟨hS, hfc, kC, hkC, hkind⟩ := cx.2.2.2.2.2.1.1.1 ci _ hc
  obtain ⟨cf, kf, fi, f, hi, hsl⟩ := hS k hk
  have hlay := hts _ (hin _ (u_in_lay hk))
  unfold u_lay at hlay
  rw [if_pos hfin] at hlay
  have hst := (u_facts hfc hkC (u_lays hts hin hk) hi).1
  have hcf : (xM E).cls = cf := by
    obtain ⟨_, _, c', _, _, _, -, -, hf', -, -, -, hown2, -⟩ := Cond.laysFinal_spec hlay
    have e1 : c' = cf := by have := hi.symm.trans hf'; simp at this; exact this.1.symm
    rw [hdecl] at hown2
    rw [← e1]; exact Option.some.inj (cx.2.2.2.1.symm.trans hown2)
  have h6 := u_fits hfc hkC hkind (Or.inr hlay) hi hd0 hn hfit
  refine W.putFinK cx.1 cx.2.1 cx.2.2.2.1 (hts _ hlink) (by rw [← hsame]; exact hi) hst hcf hin2 (by rw [q2]; exact h6) q1 q3 (by rw [hsl]; exact k2_hasslot (q4 k hk)) rfl rfl hd fun H' e1 e2 e3 => ?_
  rw [hsl] at e1 ⊢
  refine kk H' _ ls (e2.trans h1) (h2.set hD he ⟨_, hc, t_OB.to (V := updV (vp_V fs) k v) ⟨_, e1, q2, q3, t_set q4 hap hk v⟩ (fun j _ => vp_updV_set hl v j)⟩ e3) (n_keep h3 fun b b1 b2 b3 => ⟨set_fst he b3, e3 b fun c => set_fst he b3 _ (List.mem_of_getElem? he) c.symm⟩) (h4.put e2 e3 (hD.2 q0 _ he)) h5
theorem n_put (cx : OkN w E own cc maxL n h0) {a ci N index : Nat} {C ref : String} {T : u_T} (hc : vwCl[ci]? = some (C, T, N)) (hin : ∀ q ∈ u_ws C T N, q ∈ TB) (ty0 : Nat → FieldType) (hty : ∀ k, k < N → parseFieldDescriptor (T k).2.2.1 = some (ty0 k)) (hnm : ∀ a, a < N → ∀ b, b < N → a ≠ b → (T a).2.1 ≠ (T b).2.1)
    (hD : va_D (xF E) P) (q0 : Nat) {fs : List Value} (he : P[q0]? = some (a, .inr (ci, fs))) (k : Nat) (hk : k < N) (hlink : Cond.fieldLink own index ref (T k).2.1 (T k).2.2.1 ∈ TB) (hsame : (T k).1 = ref) (hfin : (T k).2.2.2 = false) {ty : FieldType} {v : Value} (hd0 : parseFieldDescriptor (T k).2.2.1 = some ty) (hn : narrow ty v = v) (hfit : fits ty v = true) (hl : k < fs.length)
    (hd : decode cc pc = .ok (.putfield index, 3)) (kk : GN l w L E M h0 sz (P.set q0 (a, .inr (ci, fs.set k v))) cells slots lv (pc + 3) st) : GN l w L E M h0 sz P cells slots lv pc (v :: .ref a :: st) := by
  intro H locs ls h1 h2 h3 h4 h5
  have hts := cx.2.2.2.2.1
  have hap := va_apart (own := own) hts hin ty0 hty hnm cx.2.2.2.2.2.1.1 hc
  obtain ⟨r, r1, cell, q1, q2, q3, q4⟩ := h2 q0 _ he
  have hr : r = (C, T, N) := Option.some.inj (r1.symm.trans hc)
  subst hr
  obtain ⟨hS, hfc, kC, hkC, hkind⟩ := cx.2.2.2.2.2.1.1.1 ci _ hc
  obtain ⟨cf, kf, fi, f, hi, hsl⟩ := hS k hk
  have hlay := hts _ (hin _ (u_in_lay hk))
  unfold u_lay at hlay
  rw [if_neg (by rw [hfin]; decide)] at hlay
  have hst := (u_facts hfc hkC (u_lays hts hin hk) hi).1
  have h6 := u_store hfc hkC hkind hlay hi hd0 hn hfit
  refine W.putK cx.1 cx.2.1 (f := f) ⟨cx.2.2.2.1, hts _ hlink, ⟨_, _, _, by rw [← hsame]; exact hi⟩, hst⟩ (by rw [q2]; exact h6) q1 q3 (by rw [hsl]; exact k2_hasslot (q4 k hk)) rfl rfl hd fun H' e1 e2 e3 => ?_
  rw [hsl] at e1 ⊢
  refine kk H' _ ls (e2.trans h1) (h2.set hD he ⟨_, hc, t_OB.to (V := updV (vp_V fs) k v) ⟨_, e1, q2, q3, t_set q4 hap hk v⟩ (fun j _ => vp_updV_set hl v j)⟩ e3) (n_keep h3 fun b b1 b2 b3 => ⟨set_fst he b3, e3 b fun c => set_fst he b3 _ (List.mem_of_getElem? he) c.symm⟩) (h4.put e2 e3 (hD.2 q0 _ he)) h5
/-- Object's own constructor -/
theorem n_obj (cx : OkN w E own cc maxL n h0) {index a : Nat} (k1 : Cond.methodLink own index objectInit ∈ TB) (k2 : Cond.instanceMethod objectInit ∈ TB) (k3 : Cond.code objectInit ⟨#[0xb1]⟩ 1 none ∈ TB) (hn : 1 ≤ n) (hd : decode cc pc = .ok (.invokespecial index, 3)) (kk : GN l w L E M h0 sz P cells slots lv (pc + 3) st) (hst : (st.map fun v => v.category).sum ≤ 8) : GN l w L E M h0 sz P cells slots lv pc (.ref a :: st) := by
  intro H locs ls h1 h2 h3 h4 h5
  have hts := cx.2.2.2.2.1
  have f1 := cx.2.2.2.2.2.2.2.1
  have f2 := cx.2.2.2.2.2.2.2.2.1
  have hw : 2 * (F0 (xM E) pc ls (Value.ref a :: st)).monitorRoom + (st.map fun v => v.category).sum ≤ 8 := lv_room hst
  refine W.objInit cx.1 cx.2.1 cx.2.2.2.1 (hts _ k1) (hts _ k2) (hts _ k3) rfl h5.1 rfl hd (by omega) (by omega) ?_
  exact W.eq (g2 := F0 (xM E) (pc + 3) ls st) rfl (kk H locs ls h1 h2 h3 h4 h5)
/-- a constructor's contract: the cells of its object, from its address on -/
def QN (w : Wp) (L : Ly) (M : Mm) (h1 K : Nat) : Array Value → State → Outcome → State → Prop := fun _ st oc t =>
  oc = .returned none ∧ t.heap.size = h1 + K ∧ (∀ a, h1 ≤ a → a < h1 + K → ∀ g, L a = some g → va_at w.1 vwCl (a, g (M a)) t.heap) ∧ va_F (fun q => h1 ≤ q) st t
def CN (l : Launch) (w : Wp) (L : Ly) (M : Mm) (y : MethodName) (cc : ByteArray) (maxL n : Nat) (ci : Nat) (fs : List Value) (K sl h1 : Nat) : Prop :=
  Met l y (Cond.code y cc maxL none :: TB) { frames := n, cells := K - 1, slots := sl, locals := 32 * n } (va_Pc [.ref h1] (fun U => U.heap.size = h1 + 1 ∧ va_at w.1 vwCl (h1, .inr (ci, fs)) U.heap ∧ KK w U ∧ va_AO RX7 U)) (QN w L M h1 K) (K - 1) sl (fun q => h1 ≤ q)
def EnN (w : Wp) (L : Ly) (E : Cx) (M : Mm) (h0 K sl : Nat) : Prop :=
  xQ E = MQ (xB E) (QN w L M h0 K) (xA E) (xS E) (K - 1) sl (fun q => h0 ≤ q) ∧ xF E = (fun q => h0 ≤ q) ∧ (xY E).sig.returnType = none ∧ (xY E).locks = false ∧ (xY E).name = "<init>" ∧ (xR E).cells = K - 1 ∧ (xR E).slots = sl
theorem fb_PcN {av : List Value} {h1 : Nat} {e : va_E} : FrameBlind (va_Pc av (fun U => U.heap.size = h1 + 1 ∧ va_at w.1 vwCl (h1, e) U.heap ∧ KK w U ∧ va_AO RX7 U)) :=
  fun a U g mk q => ⟨q.1, q.2.1, q.2.2.1, KK.same (u := U) (U := U.calling g mk a) rfl q.2.2.2.1, va_AO.moved (u := U) (U := U.calling g mk a) (Vm.Alike.refl U.vm) q.2.2.2.2⟩
theorem CN_of {y : MethodName} {ci K sl h1 : Nat} {fs : List Value} (hy : plainName y.cls = true) (hyn : y.name = "<init>") (hl : 1 ≤ maxL)
    (body : ∀ E : Cx, OkN w E y.cls cc maxL n h1 → EnN w L E M h1 K sl → GN l w L E M h1 (h1 + 1) [(h1, .inr (ci, fs))] 0 0 [(0, .ref h1)] 0 []) : CN l w L M y cc maxL n ci fs K sl h1 := by
  refine Met.ofW (cc := cc) (maxL := maxL) (ret := none) hy rfl ?_
  intro p e s m args below meth c s₁ B hml hv
  obtain ⟨rfl, hz, hP, hK, hao⟩ := hv
  have hts := atoms_spec (ws := Cond.code y cc maxL none :: TB) B.pre
  have hown : s.vm.findClass y.cls = some m.cls := findClass_of_methodNamed B.named
  have hnm : meth.name = "<init>" := by
    have := (name_of_methodNamed B.named B.method).1
    rw [this, hyn]
  rw [lg_entry_eq]
  exact body (p, e, { frames := n, cells := K - 1, slots := sl, locals := 32 * n }, s, m, #[.ref h1], below, meth, c, (fun q => h1 ≤ q), 0, 0, MQ below (QN w L M h1 K) #[.ref h1] s (K - 1) sl (fun q => h1 ≤ q))
    ⟨B.exec, B.bytes, hml, hown, fun w hw => hts w (List.mem_cons_of_mem _ hw), hK, fun q => Iff.rfl, Nat.le_refl _, Nat.le_refl _, by show h1 ≤ s.heap.size; omega, hao⟩
    ⟨rfl, rfl, B.returns, B.notSynchronized, hnm, rfl, rfl⟩ s.heap [] _ hz (fun k q hq => by
      match k, hq with
      | 0, hq => cases hq; exact hP
      | k + 1, hq => simp at hq) (fun a a1 a2 a3 => absurd (show h1 = a by omega) (a3 (h1, .inr (ci, fs)) (List.mem_singleton.mpr rfl))) va_S.rf (by show lv_has _ c.maxLocals _; rw [hml]; exact lv_entry [.ref h1] hl)
end GN2
