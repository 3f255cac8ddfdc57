/-! constructors: the words of the nest, new cells -/
abbrev gNw (w : Cond) : Prop := (∃ a i x h, w = Cond.methodLinkNest a i x h) ∨ (∃ C T, w = Cond.castable C T) ∨ (∃ C, w = Cond.arrayOver (.object C))
theorem gNw_warm {w : Cond} (g : gNw w) {s U : State} (hW : s.WarmedH U.vm) (h : va_Nw w s) : va_Nw w U := by
  rcases g with ⟨a, i, x, h9, rfl⟩ | ⟨C, T, rfl⟩ | ⟨C, rfl⟩
  · exact va_Nw.warmM hW h
  · exact va_Nw.warmC hW h
  · exact va_AO.moved hW.alike h
theorem gNw_call {w : Cond} (g : gNw w) {U : State} {f : JFrame} {mk : MethodId} {a : Array Value} (h : va_Nw w U) : va_Nw w (U.calling f mk a) := by
  rcases g with ⟨a, i, x, h9, rfl⟩ | ⟨C, T, rfl⟩ | ⟨C, rfl⟩
  · exact va_Nw.same rfl rfl h
  · exact va_Nw.same rfl rfl h
  · exact va_AO.moved (u := U) (Vm.Alike.refl U.vm) h
/-- a contract that asks for words of the nest too -/
def MN (l : Launch) (E : EX) (y : MethodName) (ws : List Cond) (rm : Room) (mc ms : Nat) (av : List Value) (w : va_W) (Nw : List Cond) (Po : Option Value → va_W → Prop) : Prop :=
  (∀ x ∈ Nw, gNw x) ∧ ∀ sz : Nat, Met l y ws rm (va_Pc av (fun U => U.heap.size = sz ∧ va_P E.1 vwCl w U.heap ∧ va_K E.1 vwCl (tyE E) U ∧ va_D (fun _ => True) w ∧ ∀ x ∈ Nw, va_Nw x U)) (Qo E (va_A w sz) Po) mc ms (va_A w sz)
def zF : Nat → Int32 := fun _ => nI 0
def NX (K : KX) (Nw : List Cond) : Prop :=
  match K with
  | (_, _, _, _, s, _, _, _, _, _, _, _, _, _) => ∀ x ∈ Nw, va_Nw x s
theorem MN.ofG {l : Launch} {E : EX} {y : MethodName} {ws ws' : List Cond} {rm : Room} {mc ms : Nat} {av : List Value} {w : va_W} {Nw : List Cond} {Po : Option Value → va_W → Prop} {cc : ByteArray} {maxL : Nat} {ret : Option FieldType} {lv : List (Nat × Value)} {own : String}
    (hg : ∀ x ∈ Nw, gNw x) (hy : plainName y.cls = true) (ho : y.cls = own) (hw : ws = Cond.code y cc maxL ret :: ws') (hlen : (lg_sl av).length ≤ maxL) (hlv : lv_args 0 av = lv)
    (body : ∀ K : KX, CX K l E own ws cc rm maxL → RX K ret mc ms Po → NX K Nw → (y.name = "<init>" → IX K) → G K 0 0 0 lv [] w) : MN l E y ws rm mc ms av w Nw Po := by
  subst ho
  refine ⟨hg, ?_⟩
  intro sz
  refine Met.ofW (cc := cc) (maxL := maxL) (ret := ret) hy hw ?_
  intro p e s m args below meth c s₁ B hml hv
  obtain ⟨rfl, hsz, hP, hK, hD0, hN⟩ := hv
  subst hsz
  have hD := hD0.self (sz := s.heap.size)
  have hl := lv_entry av (n := maxL) hlen
  rw [lg_entry_eq]
  refine body (p, l, e, (headSpec ws rm).room, s, m, av.toArray, below, meth, c, E, va_A w s.heap.size, maxL, _) ⟨B.exec, B.bytes, hml, findClass_of_methodNamed B.named, atoms_spec (ws := ws) B.pre, hK, fun q h => Or.inr h, rfl, rfl, rfl, rfl⟩ ⟨rfl, B.returns, B.notSynchronized⟩ hN (fun hn => ?_) _ _ _ hP hD va_S.rf (hlv ▸ hl)
  exact (name_of_methodNamed B.named B.method).1.trans hn
theorem frameBlindN {E : EX} {av : List Value} {sz : Nat} {w : va_W} {Nw : List Cond} (hg : ∀ x ∈ Nw, gNw x) : FrameBlind (va_Pc av (fun U => U.heap.size = sz ∧ va_P E.1 vwCl w U.heap ∧ va_K E.1 vwCl (tyE E) U ∧ va_D (fun _ => True) w ∧ ∀ x ∈ Nw, va_Nw x U)) :=
  fun a U g mk q => by obtain ⟨q0, q1, qP, qK, qD, qN⟩ := q; exact ⟨q0, q1, qP, va_K.moved (u := U) (U := U.calling g mk a) (Vm.Alike.refl U.vm) qK, qD, fun x hx => gNw_call (hg x hx) (qN x hx)⟩
section GR3
variable {K : KX} {l0 : Launch} {E0 : EX} {own : String} {Ts : List Cond} {cc : ByteArray} {rm : Room} {n0 cs sl pc cs' sl' : Nat} {lv lv' : List (Nat × Value)} {st : List Value} {ws ws' : va_W}
theorem g_objInit (C : CX K l0 E0 own Ts cc rm n0) {index a : Nat} (h1 : Cond.methodLink own index objectInit ∈ Ts) (h2 : Cond.instanceMethod objectInit ∈ Ts) (h3 : Cond.code objectInit ⟨#[0xb1]⟩ 1 none ∈ Ts) (hf : 1 ≤ rm.frames) (hl : (st.map fun v => v.category).sum + 12 ≤ rm.locals) (hdg : decode cc pc = .ok (.invokespecial index, 3)) (kk : G K cs sl (pc + 3) lv st ws) : G K cs sl pc lv (.ref a :: st) ws := by
  obtain ⟨p, l, e, R, s, m, args, below, meth, c, E, A, nL, Q⟩ := K
  obtain ⟨hx, hb, hml, hown, hts, hK, hA, rfl, rfl, rfl, rfl⟩ := C
  exact fun H locs ls hP hD hS h => W.objInit hx hb hown (hts _ h1) (hts _ h2) (hts _ h3) rfl (h.1.trans hml.symm) rfl hdg hf (by show 2 * 0 + _ + 12 ≤ _; omega) (W.eq (g2 := F0 m (pc + 3) ls st) rfl (kk H locs ls hP hD hS h))
theorem g_new (C : CX K l0 E0 own Ts cc rm n0) {Cn : String} {T : u_T} {N ci index : Nat} {ws' : Nat → va_W} (hin : ∀ w ∈ u_ws Cn T N, w ∈ Ts) (ty0 : Nat → FieldType) (hty : ∀ k, k < N → parseFieldDescriptor (T k).2.2.1 = some (ty0 k)) (h1 : Cond.classLink own index Cn ∈ Ts) (h2 : Cond.instantiable Cn N ∈ Ts) (h3 : Cond.initialized Cn ∈ Ts) (hc : vwCl[ci]? = some (Cn, T, N)) {fs : List Value} (hfs : ∀ j, j < N → defaultValue (ty0 j) = vp_V fs j) (hr : cs + 1 ≤ rm.cells ∧ sl + N ≤ rm.slots) (e1 : cs + 1 = cs') (e2 : sl + N = sl') (hdg : decode cc pc = .ok (.new index, 3)) (hw : ∀ q, ws ++ [(q, .inr (ci, fs))] = ws' q) (kk : ∀ q : Nat, G K cs' sl' (pc + 3) lv (.ref q :: st) (ws' q)) : G K cs sl pc lv st ws := by
  obtain ⟨p, l, e, R, s, m, args, below, meth, c, E, A, nL, Q⟩ := K
  obtain ⟨hx, hb, hml, hown, hts, hK, hA, rfl, rfl, rfl, rfl⟩ := C
  subst e1; subst e2
  intro H locs ls hP hD hS h
  refine va_new hx hb hts hin ty0 hty hown (hts _ h1) (hts _ h2) (hts _ h3) hK hP hD hS hA hc hfs hr.1 hr.2 hdg (fun q H1 hP hD hS => ?_)
  rw [hw q] at hP hD
  exact kk q H1 locs ls hP hD hS h
theorem g_newi (C : CX K l0 E0 own Ts cc rm n0) {n : Nat} {ws' : Nat → va_W} (h1 : Cond.arrayClass .int ∈ Ts) (hn : n < 1000000) (hr : cs + 1 ≤ rm.cells ∧ sl + n ≤ rm.slots) (e1 : cs + 1 = cs') (e2 : sl + n = sl') (hdg : decode cc pc = .ok (.newarray .int, 2)) (hw : ∀ q, ws ++ [(q, .inl (E0.2.1, n, .inl zF))] = ws' q) (kk : ∀ q : Nat, G K cs' sl' (pc + 2) lv (.ref q :: st) (ws' q)) : G K cs sl pc lv (.int (nI n) :: st) ws := by
  obtain ⟨p, l, e, R, s, m, args, below, meth, c, E, A, nL, Q⟩ := K
  obtain ⟨hx, hb, hml, hown, hts, hK, hA, rfl, rfl, rfl, rfl⟩ := C
  subst e1; subst e2
  intro H locs ls hP hD hS h
  refine va_newa (atype := .int) (a0 := (n, .inl zF)) hx hb (hts _ h1) (ty := .int) rfl hK hP hD hS hA (fun cA => rfl) (nI_pos (by omega)) (nI_clamp (by omega)) (Nat.le_trans (Nat.mul_le_mul_left n (show componentBytes .int ≤ 8 by decide)) (by omega)) hr.1 hr.2 hdg (fun q cA H1 hK1 hP hD hS => ?_)
  have a1 : s.vm.findClass ("[" ++ (FieldType.int).toString) = some _ := (hK.2 0 _ rfl).2
  have a2 : s.vm.findClass ("[" ++ (FieldType.int).toString) = some cA := (hK1.2 3 (cA, .int) rfl).2
  have a3 := Option.some.inj (a1.symm.trans a2)
  subst a3
  rw [hw q] at hP hD
  exact kk q H1 locs ls hP hD hS h
theorem g_newz (C : CX K l0 E0 own Ts cc rm n0) {n : Nat} {ws' : Nat → va_W} (h1 : Cond.arrayClass .boolean ∈ Ts) (hn : n < 1000000) (hr : cs + 1 ≤ rm.cells ∧ sl + n ≤ rm.slots) (e1 : cs + 1 = cs') (e2 : sl + n = sl') (hdg : decode cc pc = .ok (.newarray .boolean, 2)) (hw : ∀ q, ws ++ [(q, .inl (E0.2.2.1, n, .inl zF))] = ws' q) (kk : ∀ q : Nat, G K cs' sl' (pc + 2) lv (.ref q :: st) (ws' q)) : G K cs sl pc lv (.int (nI n) :: st) ws := by
  obtain ⟨p, l, e, R, s, m, args, below, meth, c, E, A, nL, Q⟩ := K
  obtain ⟨hx, hb, hml, hown, hts, hK, hA, rfl, rfl, rfl, rfl⟩ := C
  subst e1; subst e2
  intro H locs ls hP hD hS h
  refine va_newa (atype := .boolean) (a0 := (n, .inl zF)) hx hb (hts _ h1) (ty := .boolean) rfl hK hP hD hS hA (fun cA => rfl) (nI_pos (by omega)) (nI_clamp (by omega)) (Nat.le_trans (Nat.mul_le_mul_left n (show componentBytes .boolean ≤ 8 by decide)) (by omega)) hr.1 hr.2 hdg (fun q cA H1 hK1 hP hD hS => ?_)
  have a1 : s.vm.findClass ("[" ++ (FieldType.boolean).toString) = some _ := (hK.2 1 _ rfl).2
  have a2 : s.vm.findClass ("[" ++ (FieldType.boolean).toString) = some cA := (hK1.2 3 (cA, .boolean) rfl).2
  have a3 := Option.some.inj (a1.symm.trans a2)
  subst a3
  rw [hw q] at hP hD
  exact kk q H1 locs ls hP hD hS h
theorem g_newk (C : CX K l0 E0 own Ts cc rm n0) {Nw : List Cond} (N : NX K Nw) {n index : Nat} {ws' : Nat → va_W} (h1 : Cond.classLink own index RX6 ∈ Ts) (h2 : Cond.arrayOver (.object RX6) ∈ Nw) (hn : n < 1000000) (hr : cs + 1 ≤ rm.cells ∧ sl + n ≤ rm.slots) (e1 : cs + 1 = cs') (e2 : sl + n = sl') (hdg : decode cc pc = .ok (.anewarray index, 3)) (hw : ∀ q, ws ++ [(q, .inl (E0.2.2.2, n, .inr (.inr (.inr (.inr (fun _ => none))))))] = ws' q) (kk : ∀ q : Nat, G K cs' sl' (pc + 3) lv (.ref q :: st) (ws' q)) : G K cs sl pc lv (.int (nI n) :: st) ws := by
  obtain ⟨p, l, e, R, s, m, args, below, meth, c, E, A, nL, Q⟩ := K
  obtain ⟨hx, hb, hml, hown, hts, hK, hA, rfl, rfl, rfl, rfl⟩ := C
  subst e1; subst e2
  intro H locs ls hP hD hS h
  refine va_newq (C := RX6) hx hb hown (hts _ h1) (N _ h2) hK hP hD hS hA (nI_pos (by omega)) (nI_clamp (by omega)) (by omega) hr.1 hr.2 hdg (fun q cA H1 hK1 hP hD hS => ?_)
  obtain ⟨_, _, _, _, _, a1⟩ := (hK.2 2 _ rfl).2
  obtain ⟨_, _, _, _, _, a2⟩ := (hK1.2 3 (cA, .object RX6) rfl).2
  have a3 := Option.some.inj (a1.symm.trans a2)
  subst a3
  rw [hw q] at hP hD
  exact kk q H1 locs ls hP hD hS h
theorem g_aastS (C : CX K l0 E0 own Ts cc rm n0) (q0 qk ci : Nat) {a n v k : Nat} {r : vw_C} {vs : List Value} {f : Nat → Option Nat} (ha : ws[q0]? = some (a, .inl (E0.2.2.2, n, .inr (.inr (.inr (.inr f)))))) (hv : ws[qk]? = some (v, .inr (ci, vs))) (hc : vwCl[ci]? = some r) (hr6 : r.1 = RX6) (hk : k < n) (hn : n < 2 ^ 31) (hdg : decode cc pc = .ok (.aastore, 1)) (hw : ws.set q0 (a, .inl (E0.2.2.2, n, .inr (.inr (.inr (.inr (va_up f k (some v))))))) = ws') (kk : G K cs sl (pc + 1) lv st ws') : G K cs sl pc lv (.ref v :: .int (nI k) :: .ref a :: st) ws := by
  obtain ⟨p, l, e, R, s, m, args, below, meth, c, E, A, nL, Q⟩ := K
  obtain ⟨hx, hb, hml, hown, hts, hK, hA, rfl, rfl, rfl, rfl⟩ := C
  obtain ⟨h1, h2⟩ := clN hk hn
  intro H locs ls hP hD hS h
  refine va_astq hx hb hK hP hD hS q0 2 qk ci ha (by rw [hr6]; rfl) hv hc h1 hdg (fun H1 locs1 hP hD hS => ?_)
  rw [h2, hw] at hP hD
  exact kk H1 locs1 ls hP hD hS h
theorem g_aastO (C : CX K l0 E0 own Ts cc rm n0) {Nw : List Cond} (N : NX K Nw) (q0 qk ci : Nat) {a n v k : Nat} {r : vw_C} {vs : List Value} {f : Nat → Option Nat} (ha : ws[q0]? = some (a, .inl (E0.2.2.2, n, .inr (.inr (.inr (.inr f)))))) (hv : ws[qk]? = some (v, .inr (ci, vs))) (hc : vwCl[ci]? = some r) (hca : Cond.castable r.1 RX6 ∈ Nw) (hk : k < n) (hn : n < 2 ^ 31) (hdg : decode cc pc = .ok (.aastore, 1)) (hw : ws.set q0 (a, .inl (E0.2.2.2, n, .inr (.inr (.inr (.inr (va_up f k (some v))))))) = ws') (kk : G K cs sl (pc + 1) lv st ws') : G K cs sl pc lv (.ref v :: .int (nI k) :: .ref a :: st) ws := by
  obtain ⟨p, l, e, R, s, m, args, below, meth, c, E, A, nL, Q⟩ := K
  obtain ⟨hx, hb, hml, hown, hts, hK, hA, rfl, rfl, rfl, rfl⟩ := C
  obtain ⟨h1, h2⟩ := clN hk hn
  intro H locs ls hP hD hS h
  refine va_astqO (E := RX6) hx hb hK hP hD hS q0 2 qk ci ha rfl (N _ hca) hv hc h1 hdg (fun H1 locs1 hP hD hS => ?_)
  rw [h2, hw] at hP hD
  exact kk H1 locs1 ls hP hD hS h
theorem g_perm {ws2 : va_W} {st2 : List Value} (pm : List Nat) (hn : va_nd pm = true) (hp : pm.map (fun i => ws[i]?) = ws2.map some) (hs : st = st2) (kk : G K cs sl pc lv st2 ws2) : G K cs sl pc lv st ws := by
  subst hs
  obtain ⟨p, l, e, R, s, m, args, below, meth, c, E, A, nL, Q⟩ := K
  exact fun H locs ls hP hD hS h => kk H locs ls (hP.pick pm hp) (hD.sub pm hn hp) hS h

/-- a nest mate's constructor -/
theorem g_callI (C : CX K l0 E0 own Ts cc rm n0) {y : MethodName} {wsy wsy' : List Cond} {rmy : Room} {bytes : ByteArray} {maxL index mc ms : Nat} {Po : Option Value → va_W → Prop} {wc : va_W} {rest As : List Value} {n b : Nat} {Nw Nwy : List Cond} {host : String} (N : NX K Nw) (hM : MN l0 E0 y wsy rmy mc ms (.ref b :: As) wc Nwy Po) (hsub : ∀ x ∈ Nwy, x ∈ Nw) (hG : GoodIn Ts wsy) (hw : wsy = Cond.code y bytes maxL none :: wsy') (hcs : rmy.cells = mc ∧ rmy.slots = ms) (hR : rmy.frames + 1 ≤ rm.frames ∧ 8 + (maxL + 11) + rmy.locals ≤ rm.locals ∧ cs + mc ≤ rm.cells ∧ sl + ms ≤ rm.slots) (hcat : (rest.map fun v => v.category).sum ≤ 8) (hn : As.length = n) (hl : Cond.methodLinkNest own index y host ∈ Nw) (hini : Cond.initialized y.cls ∈ Ts) (hin : Cond.instanceMethod y ∈ Ts) (hy1 : y.name = "<init>") (hd : y.cls ≠ "java/lang/invoke/MethodHandle" ∧ y.cls ≠ "java/lang/invoke/VarHandle" ∧ (parseMethodDescriptor y.desc).map (fun d => d.parameters.length) = some n)
    (hst : st = As.reverse ++ .ref b :: rest) (hdg : decode cc pc = .ok (.invokespecial index, 3)) (isC isR : List Nat) (ok : okP ws.length isC isR = true) (hC : isC.map (fun i => ws[i]?) = wc.map some) (kk : ∀ v w', Po v w' → G K (cs + mc) (sl + ms) (pc + 3) lv (v.toList ++ rest) (wpk ws isR ++ w')) : G K cs sl pc lv st ws := by
  obtain ⟨p, l, e, R, s, m, args, below, meth, c, E, A, nL, Q⟩ := K
  obtain ⟨hx, hb, hml, hown, hts, hK, hA, rfl, rfl, rfl, rfl⟩ := C
  intro H locs ls hP hD hS h
  subst hst
  refine g_run (a := (Value.ref b :: As).toArray) hA isC isR ok hC hP hD hS h (fun hPc hDc => ?_) kk
  exact va_runIN ⟨hx, hb, hml, hown, hts⟩ (hM.2 H.size) ⟨va_cnB n hts hG hw hcs.1 hcs.2 (N _ hl) (hts _ hini) hd ⟨hR.1, hR.2.1⟩, hy1, hts _ hin⟩ ⟨frameBlindN hM.1, fun U hU hW => ⟨rfl, by rw [hU], by rw [hU]; exact hPc, va_K.moved hW.alike hK, hDc, fun x hx => gNw_warm (hM.1 x hx) hW (N x (hsub x hx))⟩⟩ rfl hn h.1 rfl (lv_room hcat) hdg ⟨hR.2.2.1, hR.2.2.2⟩
/-- a public constructor -/
theorem g_callI2 (C : CX K l0 E0 own Ts cc rm n0) {y : MethodName} {wsy wsy' : List Cond} {rmy : Room} {bytes : ByteArray} {maxL index mc ms : Nat} {Po : Option Value → va_W → Prop} {wc : va_W} {rest As : List Value} {n b : Nat} {Nw Nwy : List Cond} (N : NX K Nw) (hM : MN l0 E0 y wsy rmy mc ms (.ref b :: As) wc Nwy Po) (hsub : ∀ x ∈ Nwy, x ∈ Nw) (hG : GoodIn Ts wsy) (hw : wsy = Cond.code y bytes maxL none :: wsy') (hcs : rmy.cells = mc ∧ rmy.slots = ms) (hR : rmy.frames + 1 ≤ rm.frames ∧ 8 + (maxL + 11) + rmy.locals ≤ rm.locals ∧ cs + mc ≤ rm.cells ∧ sl + ms ≤ rm.slots) (hcat : (rest.map fun v => v.category).sum ≤ 8) (hn : As.length = n) (hl : Cond.methodLink own index y ∈ Ts) (hini : Cond.initialized y.cls ∈ Ts) (hin : Cond.instanceMethod y ∈ Ts) (hy1 : y.name = "<init>") (hd : y.cls ≠ "java/lang/invoke/MethodHandle" ∧ y.cls ≠ "java/lang/invoke/VarHandle" ∧ (parseMethodDescriptor y.desc).map (fun d => d.parameters.length) = some n)
    (hst : st = As.reverse ++ .ref b :: rest) (hdg : decode cc pc = .ok (.invokespecial index, 3)) (isC isR : List Nat) (ok : okP ws.length isC isR = true) (hC : isC.map (fun i => ws[i]?) = wc.map some) (kk : ∀ v w', Po v w' → G K (cs + mc) (sl + ms) (pc + 3) lv (v.toList ++ rest) (wpk ws isR ++ w')) : G K cs sl pc lv st ws := by
  obtain ⟨p, l, e, R, s, m, args, below, meth, c, E, A, nL, Q⟩ := K
  obtain ⟨hx, hb, hml, hown, hts, hK, hA, rfl, rfl, rfl, rfl⟩ := C
  intro H locs ls hP hD hS h
  subst hst
  refine g_run (a := (Value.ref b :: As).toArray) hA isC isR ok hC hP hD hS h (fun hPc hDc => ?_) kk
  exact va_runI ⟨hx, hb, hml, hown, hts⟩ (hM.2 H.size) (cwI n hts hG hw hcs.1 hcs.2 (hts _ hini) (hts _ hl) (hts _ hin) hy1 hd ⟨hR.1, hR.2.1⟩) ⟨frameBlindN hM.1, fun U hU hW => ⟨rfl, by rw [hU], by rw [hU]; exact hPc, va_K.moved hW.alike hK, hDc, fun x hx => gNw_warm (hM.1 x hx) hW (N x (hsub x hx))⟩⟩ rfl hn h.1 rfl (lv_room hcat) hdg ⟨hR.2.2.1, hR.2.2.2⟩
end GR3
