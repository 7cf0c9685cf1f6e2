/-! THE CLAIM OUT OF ONE WALK OF THE LAW'S BODY. Your part is whole_start (and what it stands on); all else here is the same for every law, but numbers. -/
def R_law : String := "TramWiresLaw"
def lw_P (b : Addr) (xs : List Int32) (args : Array Value) (s : State) : Prop := args = #[.ref b] ∧ s.IntsAt b xs ∧ xs.length ≤ 260 ∧ (Jvm.Cond.and given_1 narrow_1).before args s = true
def lw_Q (_ : Array Value) (s : State) (o : Outcome) (t : State) : Prop := o = .returned (some (.int 1)) ∧ Framed s o t [] 600000 7302250
def lw_Z (below : List Frame) (a : Array Value) (s : State) : State → Prop := fun t => ∃ o, t.status = .running ∧ Ended t below o ∧ lw_Q a s o t
/-- the law's own end, with 1 on the stack, nothing written that was there before, its room as the claim has it -/
theorem lw_ret {p : Program} {l : Launch} {e : Env} {s : State} {m : MethodId} {below : List Frame} {meth : Method} {c : Code} {b : Nat} (hx : p.tables.exec = Jvm.exec) (hb : c.code = code) (hr : meth.sig.returnType = ret) (hlocks : meth.locks = false) {pc : Nat} {H : Heap} {ls : Array Slot} (hdg : decode code pc = .ok (.ireturn, 1)) : W p l e room_1 s m #[Value.ref b] below meth c H [] 600000 7302250 (lw_Z below #[Value.ref b] s) (F0 m pc ls [.int 1]) := by
  intro T hT X
  obtain ⟨fs, hret, hrun, hended, hW, hframe⟩ := X.leave (v := some (.int 1)) (hlocks := hlocks) (fun h => by rw [hr] at h; cases h)
  have hmeth' : T.vm.method? m = some meth := X.method'
  refine ⟨T.setFrames fs, ?_, .returned (some (.int 1)), hrun, hended, rfl, ⟨_, rfl⟩, hW, hframe⟩
  jvm_step X.here [X.here.top, hx, hb, hdg, hmeth', hr, ret, narrow_b1]
  (try refine ⟨rfl, ?_⟩); (try refine ⟨rfl, ?_⟩)
  first | (intro acts; rw [hret _ acts rfl rfl rfl]) | rw [hret _ _ rfl rfl rfl]
  exact Steps.refl _
/-- what holds at the law's entry: the machine, the code, the tables' words (any of lw_tbl by 'hts w (by decide +kernel)'), the script of L ints xs at the cell b, what the Statement gives of the start (any of its parts by flat_of_before) -/
def lw_At (p : Program) (s : State) (m : MethodId) (meth : Method) (c : Code) (b L : Nat) (xs : Nat → Int32) : Prop :=
  p.tables.exec = Jvm.exec ∧ c.code = code ∧ meth.sig.returnType = ret ∧ c.maxLocals = 9 ∧ s.vm.findClass R_law = some m.cls ∧ (∀ w ∈ lw_tbl, w.before #[Value.ref b] s = true) ∧ va_X b L xs s s.heap ∧ b < s.heap.size ∧ meth.locks = false ∧ (Jvm.Cond.and given_1 narrow_1).before #[Value.ref b] s = true
/-! stretches of methods that make objects -/
theorem df_X8 : ∀ j, j < 5 → defaultValue (tyX8 j) = vp_V [.null, .null, .null, .null, .null] j := fun j hj => by
  match j, hj with
  | 0, _ => rfl
  | 1, _ => rfl
  | 2, _ => rfl
  | 3, _ => rfl
  | 4, _ => rfl
  | j + 5, h => omega
def wB (w : Wp) (X : Nat) : Wp := (w.1, w.2.1, w.2.2.1, w.2.2.2.1, X + 35)
def setN (E : Cx) (cn sn : Nat) : Cx := (xP E, xE E, xR E, xS E, xM E, xA E, xB E, xY E, xC E, xF E, cn, sn, xQ E)
/-- what a walk keeps over a change of layout -/
def Oe (w : Wp) (E : Cx) (own : String) (cc : ByteArray) (maxL n : Nat) : Prop :=
  (xP E).tables.exec = Jvm.exec ∧ (xC E).code = cc ∧ (xC E).maxLocals = maxL ∧ (xS E).vm.findClass own = some (xM E).cls ∧ (∀ w ∈ TB, w.before (xA E) (xS E) = true) ∧ KK w (xS E) ∧
  (∀ q, (xS E).heap.size ≤ q ↔ xF E q) ∧ n ≤ (xR E).frames ∧ 32 * n ≤ (xR E).locals ∧ va_AO RX7 (xS E)
section SK
variable {l : Launch} {w : Wp} {L : Ly} {E : Cx} {M : Mm} {lv : List (Nat × Value)} {pc : Nat} {st : List Value} {own : String} {cc : ByteArray} {maxL n : Nat}
theorem Oe.ok (cx : Oe w E own cc maxL n) (hL : ∀ q, L q ≠ none → (xS E).heap.size ≤ q) (h1 : xN E ≤ (xR E).cells) (h2 : xT E ≤ (xR E).slots) : Ok w L E own cc maxL n :=
  ⟨cx.1, cx.2.1, cx.2.2.1, cx.2.2.2.1, cx.2.2.2.2.1, cx.2.2.2.2.2.1, fun q h => (cx.2.2.2.2.2.2.1 q).mp (hL q h), cx.2.2.2.2.2.2.2.1, cx.2.2.2.2.2.2.2.2.1, h1, h2⟩
theorem Oe.nw (cx : Oe w E own cc maxL n) (X cn sn : Nat) : Oe (wB w X) (setN E cn sn) own cc maxL n := cx
theorem Oe.okN (cx : Oe w E own cc maxL n) (X : Nat) : OkN (wB w X) E own cc maxL n (xS E).heap.size :=
  ⟨cx.1, cx.2.1, cx.2.2.1, cx.2.2.2.1, cx.2.2.2.2.1, cx.2.2.2.2.2.1, cx.2.2.2.2.2.2.1, cx.2.2.2.2.2.2.2.1, cx.2.2.2.2.2.2.2.2.1, Nat.le_refl _, cx.2.2.2.2.2.2.2.2.2⟩
/-- a new object of the class -/
theorem g_newT {index idx2 : Nat} (cx : Oe w E own cc maxL n) (h5 : 5 ≤ n) (hcl : Cond.classLink own index RX8 ∈ TB) (hml : Cond.methodLink own idx2 yX8_init ∈ TB) (hc : xN E + 233 ≤ (xR E).cells) (hs : xT E + 2922 ≤ (xR E).slots) (hst : (st.map fun v => v.category).sum ≤ 7)
    (hd0 : decode cc pc = .ok (.new index, 3)) (hd1 : decode cc (pc + 3) = .ok (.dup, 1)) (hd2 : decode cc (pc + 3 + 1) = .ok (.invokespecial idx2, 3)) (kk : ∀ X, (xS E).heap.size ≤ X → G l (wB w X) (lyG (wB w X) X noL) (setN E (xN E + 233) (xT E + 2922)) (M00 X) lv (pc + 3 + 1 + 3) (.ref X :: st)) : G l w L E M lv pc st := by
  intro H locs ls h1 h2 h3
  have h21 := h2.1
  refine n_newM (w := wB w H.size) (L := lyG (wB w H.size) H.size noL) (M := M00 H.size) (E := E) (h0 := (xS E).heap.size) (sz := H.size) (P := []) (cells := xN E) (slots := xT E) (cx.okN H.size) (ci := 8) rfl in_X8 tyX8 tyX8_ok hcl ins_X8 ini_X8 df_X8 (c_X8 l (wB w H.size) H.size rfl) hml im_X8 ini_X8 co_X8 (by decide) rfl (by decide) (by omega) h21 (by omega) (fun _ h => absurd h List.not_mem_nil) (by omega) (by omega) ?_ hd0 hd1 hd2 ?_ H locs ls rfl (fun k q hq => by simp at hq) (fun a a1 a2 a3 g hg => ?_) h2 h3
  · rw [List.map_cons, List.sum_cons]
    show 1 + _ ≤ 8
    omega
  · intro H' locs' ls' g1 g2 g3 g4 g5
    have e1 : xN E + 1 + (233 - 1) = xN E + 233 := by omega
    have e2 : xT E + 5 + 2917 = xT E + 2922 := by omega
    rw [e1, e2]
    refine kk H.size h21 H' locs' ls' (fun a g hg => ?_) g4 g5
    obtain ⟨a1, a2⟩ := ly_lt (wB w H.size) H.size (a := a) (by rw [hg]; exact Option.some_ne_none _)
    exact g3 a (by omega) a2 (fun x hx => absurd hx List.not_mem_nil) g hg
  · rw [ly_out _ _ _ (Or.inl a2)] at hg
    cases hg
/-! methods without arguments that make objects -/
def rmN (n cn sn : Nat) : Room := { frames := n, cells := cn, slots := sn, locals := 32 * n }
def Cn (l : Launch) (w : Wp) (y : MethodName) (cc : ByteArray) (maxL : Nat) (rt : Option FieldType) (n cn sn : Nat) (Qf : Array Value → State → Outcome → State → Prop) (X : Nat) : Prop :=
  Met l y (Cond.code y cc maxL rt :: TB) (rmN n cn sn) (va_Pc [] (fun U => U.heap.size = X ∧ KK w U ∧ va_AO RX7 U)) Qf cn sn (fun q => X ≤ q)
theorem fb_PcC {X : Nat} : FrameBlind (va_Pc [] (fun U => U.heap.size = X ∧ KK w U ∧ va_AO RX7 U)) :=
  fun a U g mk q => ⟨q.1, q.2.1, KK.same (u := U) (U := U.calling g mk a) rfl q.2.2.1, va_AO.moved (u := U) (U := U.calling g mk a) (Vm.Alike.refl U.vm) q.2.2.2⟩
theorem Cn_of {y : MethodName} {rt : Option FieldType} {cn sn X : Nat} {Qf : Array Value → State → Outcome → State → Prop} (hy : plainName y.cls = true)
    (body : ∀ E : Cx, Oe w E y.cls cc maxL n → (xS E).heap.size = X → xN E = 0 → xT E = 0 → (xR E).cells = cn → (xR E).slots = sn → xQ E = MQ (xB E) Qf (xA E) (xS E) cn sn (fun q => X ≤ q) → xF E = (fun q => X ≤ q) → (xY E).sig.returnType = rt → (xY E).locks = false → G l w noL E (fun _ _ => 0) [] 0 []) : Cn l w y cc maxL rt n cn sn Qf X := by
  refine Met.ofW (cc := cc) (maxL := maxL) (ret := rt) hy rfl ?_
  intro p e s m args below meth c s₁ B hml hv
  obtain ⟨rfl, hz, hK, hao⟩ := hv
  have hts := atoms_spec (ws := Cond.code y cc maxL rt :: TB) B.pre
  have hown : s.vm.findClass y.cls = some m.cls := findClass_of_methodNamed B.named
  rw [lg_entry_eq]
  exact body (p, e, rmN n cn sn, s, m, [].toArray, below, meth, c, (fun q => X ≤ q), 0, 0, MQ below Qf [].toArray s cn sn (fun q => X ≤ q))
    ⟨B.exec, B.bytes, hml, hown, fun w hw => hts w (List.mem_cons_of_mem _ hw), hK, fun q => by show s.heap.size ≤ q ↔ X ≤ q; rw [hz], Nat.le_refl _, Nat.le_refl _, hao⟩
    hz rfl rfl rfl rfl rfl rfl B.returns B.notSynchronized s.heap [] _ (fun a g hg => by cases hg) va_S.rf (by show lv_has _ c.maxLocals _; rw [hml]; exact lv_entry [] (Nat.zero_le _))
/-- a call of such a method -/
theorem g_callC {index : Nat} {y : MethodName} {c1 : ByteArray} {m1 n1 cn sn : Nat} {rt : Option FieldType} {Qf : Nat → Array Value → State → Outcome → State → Prop} (cx : Oe w E own cc maxL n) (lk : LkS own index y c1 m1 rt 0) (hn : n1 + 1 ≤ n)
    (hC : ∀ X, Cn l w y c1 m1 rt n1 cn sn (Qf X) X) (hc : xN E + cn ≤ (xR E).cells) (hs : xT E + sn ≤ (xR E).slots) (hd : decode cc pc = .ok (.invokestatic index, 3)) (hst : (st.map fun v => v.category).sum ≤ 8)
    (Z : Nat → Value → Wp → Ly → Mm → Prop) (hq : ∀ X a s o t, Qf X a s o t → ∃ v w2 L2 M2, Z X v w2 L2 M2 ∧ o = .returned (some v) ∧ HM w2 L2 M2 t.heap ∧ va_F (fun q => X ≤ q) s t)
    (kk : ∀ X v w2 L2 M2, (xS E).heap.size ≤ X → Z X v w2 L2 M2 → G l w2 L2 (setN E (xN E + cn) (xT E + sn)) M2 lv (pc + 3) (v :: st)) : G l w L E M lv pc st := by
  intro H locs ls h1 h2 h3
  obtain ⟨k1, k2, k4, k5, ⟨k6, k7, k8⟩, k9⟩ := lk
  have hts := cx.2.2.2.2.1
  have f1 := cx.2.2.2.2.2.2.2.1
  have f2 := cx.2.2.2.2.2.2.2.2.1
  have sub := cx.2.2.2.2.2.2.1
  have h21 := h2.1
  have hr := va_runS (p := xP E) (l := l) (e := xE E) (R := xR E) (s := xS E) (m := xM E) (args := xA E) (below := xB E) (meth := xY E) (c := xC E) (locs := locs) (cells := xN E) (slots := xT E) (g := F0 (xM E) pc ls st) (As := []) (rest := st) (nL := maxL) (n := 0) ⟨cx.1, cx.2.1, cx.2.2.1, cx.2.2.2.1, hts⟩ (hC H.size) ⟨⟨rfl, rfl, by show n1 + 1 ≤ _; omega, by show 8 + (m1 + 11) + 32 * n1 ≤ _; omega, pay_tb hts k5, List.mem_cons_self, hts _ k5, hts _ k4, ⟨k6, k7⟩, fun sig h => by rw [h] at k8; exact (Option.some.inj k8).symm, hts _ k1⟩, hts _ k2⟩ ⟨fb_PcC, fun U hU hW => ⟨rfl, by rw [hU], cx.2.2.2.2.2.1.warm hW, va_AO.moved hW.alike cx.2.2.2.2.2.2.2.2.2⟩⟩ rfl rfl (by rw [← cx.2.2.1]; exact h3.1) rfl (lv_room hst) hd ⟨hc, hs⟩
  intro T hT X
  obtain ⟨v, st₀, t, T', Lw, g0, X', hL, e1, e2, hQ, stp⟩ := hr T hT X
  obtain ⟨v', w2, L2, M2, hZ, hv, hM, hz2, hk⟩ := hq _ _ _ _ _ hQ
  cases hv
  rw [g0] at hz2 hk
  obtain ⟨t2, a1, b1⟩ := kk H.size _ w2 L2 M2 h21 hZ T'.heap (locs ++ Lw) ls (by rw [e1]; exact hM)
    ⟨Nat.le_trans h21 (by rw [e1]; exact hz2), fun q q1 q2 => by
      have hq : q < H.size := by
        rcases Nat.lt_or_ge q H.size with c | c
        · exact c
        · exact absurd ((sub q).mp (by omega)) q2
      rw [e1, hk q hq (by omega)]
      exact h2.2.1 q q1 q2, fun q hq => by
      rcases List.mem_append.mp hq with h | h
      · exact h2.2.2 q h
      · exact (sub _).mp (by have : H.size ≤ q.base := hL q h; omega)⟩ h3 T' rfl X'
  exact ⟨t2, stp t2 a1, b1⟩
/-! ends -/
def Q3 (w : Wp) (L : Ly) (M' : Mm) (X : Nat) (A : Nat → Prop) : Array Value → State → Outcome → State → Prop := fun _ s o t => o = .returned (some (.ref X)) ∧ HM w L M' t.heap ∧ va_F A s t
def En3 (w : Wp) (L : Ly) (E : Cx) (X : Nat) (R0 : Int32 × Mm) : Prop :=
  (∀ t, MQ (xB E) (Q3 w L R0.2 X (xF E)) (xA E) (xS E) (xN E) (xT E) (xF E) t → xQ E t) ∧ (xY E).sig.returnType = some (.object "TramWires") ∧ (xY E).locks = false
theorem g_aret3 {X : Nat} {R0 : Int32 × Mm} (cx : Ok w L E own cc maxL n) (en : En3 w L E X R0) (hd : decode cc pc = .ok (.areturn, 1)) (hf : some (0, M) = some R0) : G l w L E M lv pc [.ref X] := by
  intro H locs ls h1 h2 h3
  cases hf
  obtain ⟨e1, e2, e3⟩ := en
  intro T hT hX
  obtain ⟨t, a1, b1⟩ := W.aret (Qc := Q3 w L M X (xF E)) cx.1 cx.2.1 e2 (Or.inl ⟨_, rfl⟩) (Or.inr ⟨_, rfl⟩) (fun t ht hW => ⟨rfl, by rw [ht]; exact h1, h2.F ht⟩) h2.2.2 hd e3 T hT hX
  exact ⟨t, a1, e1 t b1⟩
def QB (A : Nat → Prop) : Array Value → State → Outcome → State → Prop := fun _ s o t => o = .returned (some (.int 1)) ∧ va_F A s t
def EnB (E : Cx) (R0 : Int32 × Mm) : Prop :=
  xQ E = MQ (xB E) (QB (xF E)) (xA E) (xS E) (xN E) (xT E) (xF E) ∧ R0.1 = 1 ∧ (xY E).sig.returnType = some .boolean ∧ (xY E).locks = false
theorem g_tret {R0 : Int32 × Mm} (cx : Ok w L E own cc maxL n) (en : EnB E R0) {x : Int32} (hd : decode cc pc = .ok (.ireturn, 1)) (hf : some (x, M) = some R0) : G l w L E M lv pc [.int x] := by
  intro H locs ls h1 h2 h3
  cases hf
  obtain ⟨e1, e2, e3, e4⟩ := en
  have e2 : x = 1 := e2
  subst e2
  rw [e1]
  exact W.zret cx.1 cx.2.1 e3 rfl (fun t ht hW => ⟨rfl, h2.F ht⟩) h2.2.2 hd e4
def EnL (E : Cx) (b : Nat) (R0 : Int32 × Mm) : Prop :=
  xQ E = lw_Z (xB E) #[Value.ref b] (xS E) ∧ xA E = #[Value.ref b] ∧ xR E = room_1 ∧ (∀ q, xF E q → (xS E).heap.size ≤ q) ∧ R0.1 = 1 ∧ (xY E).sig.returnType = ret ∧ (xY E).locks = false
theorem g_lawret {R0 : Int32 × Mm} {b : Nat} (cx : Ok w L E own code maxL n) (en : EnL E b R0) {x : Int32} (hd : decode code pc = .ok (.ireturn, 1)) (hf : some (x, M) = some R0) : G l w L E M lv pc [.int x] := by
  cases hf
  obtain ⟨e1, e2, e3, e6, e7, e8, e9⟩ := en
  have e7 : x = 1 := e7
  subst e7
  intro H locs ls h1 h2 h3
  have hc := cx.2.2.2.2.2.2.2.2.2.1
  have hs := cx.2.2.2.2.2.2.2.2.2.2
  obtain ⟨p, e, R, s, m, a, below, meth, c, A, cn, sn, Q⟩ := E
  dsimp only [xQ, xB, xS, xA, xR, xN, xT, xF, xY] at *
  subst e1 e2 e3
  refine va_forget (fun q hq => e6 _ (h2.2.2 q hq)) ?_
  refine W.widen (k := 600000) (n := 7302250) hc hs ?_
  exact lw_ret cx.1 cx.2.1 e8 e9 hd
/-! a row of longs, in halves -/
def j64 (lo hi : Int32) : Int64 := ⟨⟨hi.toBitVec ++ lo.toBitVec⟩⟩
def jlo (x : Int64) : Int32 := ⟨⟨x.toBitVec.extractLsb' 0 32⟩⟩
def jhi (x : Int64) : Int32 := ⟨⟨x.toBitVec.extractLsb' 32 32⟩⟩
theorem j64_jlo (x : Int64) : j64 (jlo x) (jhi x) = x := by
  have h : (x.toBitVec.extractLsb' 32 32 ++ x.toBitVec.extractLsb' 0 32 : BitVec 64) = x.toBitVec := by
    apply BitVec.eq_of_getLsbD_eq
    intro i hi
    rw [BitVec.getLsbD_append]
    by_cases c : i < 32
    · simp [c]
    · simp [c, show 32 + (i - 32) = i by omega, show i - 32 < 32 by omega]
  unfold j64 jlo jhi
  exact congrArg (fun b => (⟨⟨b⟩⟩ : Int64)) h
def jat (M : Mm) (a i : Nat) : Int64 := j64 (M a (2 * i)) (M a (2 * i + 1))
def jst (M : Mm) (a i : Nat) (v : Int64) : Mm := mst (mst M a (2 * i) (jlo v)) a (2 * i + 1) (jhi v)
def gJ (cJ : ClassId) (n : Nat) : (Nat → Int32) → va_E := fun f => .inl (cJ, n, .inr (.inl (fun k => j64 (f (2 * k)) (f (2 * k + 1)))))
theorem jat_st (M : Mm) (a i j : Nat) (v : Int64) : jat (jst M a i v) a j = if j = i then v else jat M a j := by
  unfold jat jst
  rw [mst_at, mst_at]
  by_cases c : j = i
  · subst c
    rw [if_pos rfl, upd_n (by omega), upd_at, upd_at, j64_jlo]
  · rw [if_neg c, upd_n (by omega), upd_n (by omega), upd_n (by omega), upd_n (by omega)]
theorem jst_n {M : Mm} {a i : Nat} {v : Int64} {b : Nat} (h : b ≠ a) : jst M a i v b = M b := by
  unfold jst
  rw [mst_n h, mst_n h]
theorem g_lald (cx : Ok w L E own cc maxL n) {cJ : ClassId} {a m : Nat} {i : Int32} {A : OR} {R0 : Int32 × Mm} (hJ : ArrOfT (xS E) cJ .long) (hL : L a = some (gJ cJ m)) (hd : decode cc pc = .ok (.laload, 1)) (hf : ckd i m A = some R0) (kk : A = some R0 → G l w L E M lv (pc + 1) (.long (jat M a (ix i)) :: st)) : G l w L E M lv pc (.int i :: .ref a :: st) := by
  intro H locs ls h1 h2 h3
  obtain ⟨hin, hf⟩ := ckd_in hf
  have hlt : i.toNatClampNeg < m := Nat.not_le.mp fun q => hin (Or.inr q)
  have hc : H[a]? = some (arrV cJ m (fun j => .long (jat M a j))) := h1 a _ hL
  exact W.lald (v := .long (jat M a (ix i))) cx.1 cx.2.1 hc (hJ m _) (fun q => by cases q) (by rw [arrV_size]; exact hin) (by rw [arrV_read _ _ hlt]) rfl rfl hd (kk hf H locs ls h1 h2 h3)
theorem g_last (cx : Ok w L E own cc maxL n) {cJ : ClassId} {a m : Nat} {i : Int32} {x : Int64} {A : Mm → OR} {R0 : Int32 × Mm} (hJ : ArrOfT (xS E) cJ .long) (hL : L a = some (gJ cJ m)) (hd : decode cc pc = .ok (.lastore, 1)) (hf : ckd i m (bnd (jst M a (ix i) x) A) = some R0) (kk : ∀ M1 : Mm, A M1 = some R0 → G l w L E M1 lv (pc + 1) st) : G l w L E M lv pc (.long x :: .int i :: .ref a :: st) := by
  intro H locs ls h1 h2 h3
  obtain ⟨hin, hf⟩ := ckd_in hf
  have hc : H[a]? = some (arrV cJ m (fun j => .long (jat M a j))) := h1 a _ hL
  refine W.last cx.1 cx.2.1 hc (hJ m _) (fun q => by cases q) (by rw [arrV_size]; exact hin) rfl rfl hd fun H1 e z oq => ?_
  have he : va_at w.1 vwCl (a, gJ cJ m (jst M a (ix i) x a)) H1 := by
    show H1[a]? = some (arrV cJ m (fun j => .long (jat (jst M a (ix i) x) a j)))
    rw [e, arrV_store]
    congr 2
    funext q
    rw [jat_st]
    by_cases hq : q = i.toNatClampNeg
    · subst hq; simp [updV]
    · simp [updV, hq]
  have hM := h1.put hL he oq
  have e2 : mrow M a (jst M a (ix i) x a) = jst M a (ix i) x := by
    funext b
    by_cases c : b = a
    · subst c; rw [mrow_at]
    · rw [mrow_ne c, jst_n c]
  rw [e2] at hM
  exact kk _ hf H1 _ ls hM (h2.put z oq (cx.2.2.2.2.2.2.1 a (by rw [hL]; simp))) h3
theorem at_lt {D : va_G} {x : Nat × va_E} {H : Heap} (h : va_at D vwCl x H) : x.1 < H.size := by
  unfold va_at at h
  split at h
  · exact (Array.getElem?_eq_some_iff.mp h).1
  · obtain ⟨r, -, cell, h1, -⟩ := h
    exact (Array.getElem?_eq_some_iff.mp h1).1
/-- a new row of longs -/
theorem g_newJ (cx : Ok w L E own cc maxL n) (hF : ∀ q, (xS E).heap.size ≤ q ↔ xF E q) {x : Int32} {N : Nat} (hx : ¬ x < 0) (hN : x.toNatClampNeg = N) (hb : N * componentBytes (newarray.typeOf .long) ≤ 536870912) (hc : xN E + 1 ≤ (xR E).cells) (hs : xT E + N ≤ (xR E).slots) (hd : decode cc pc = .ok (.newarray .long, 2))
    (kk : ∀ (Y : Nat) (cJ : ClassId), (∀ a, L a ≠ none → a < Y) → (xS E).heap.size ≤ Y → ArrOfT (xS E) cJ .long → G l w (fun a => if a = Y then some (gJ cJ N) else L a) (setN E (xN E + 1) (xT E + N)) (mrow M Y (fun _ => 0)) lv (pc + 2) (.ref Y :: st)) : G l w L E M lv pc (.int x :: st) := by
  intro H locs ls h1 h2 h3
  have hlt : ∀ a, L a ≠ none → a < H.size := fun a ha => by
    cases hg : L a with
    | none => exact absurd hg ha
    | some g => exact at_lt (h1 a g hg)
  refine va_newaK (atype := .long) cx.1 cx.2.1 (cx.2.2.2.2.1 _ ar_J) rfl hd rfl hx hN hb hc hs rfl fun H1 cA e1 z1 o1 hAr hNm => ?_
  have h21 := h2.1
  refine kk H.size cA hlt h21 hAr H1 locs ls (fun a g hg => ?_) ⟨by show (xS E).heap.size ≤ _; rw [z1]; omega, fun q q1 q2 => ?_, h2.2.2⟩ h3
  · have hg : (if a = H.size then some (gJ cA N) else L a) = some g := hg
    by_cases c : a = H.size
    · subst c
      rw [if_pos rfl] at hg
      cases hg
      rw [mrow_at]
      show H1[H.size]? = some (arrV cA N (fun _ => .long (j64 0 0)))
      rw [e1]
      rfl
    · rw [if_neg c] at hg
      rw [mrow_ne c]
      have h6 := h1 a g hg
      exact at_same h6 (o1 _ (at_lt h6))
  · have q1 : q < (xS E).heap.size := q1
    rw [o1 q (by omega)]
    exact h2.2.1 q q1 q2
end SK
