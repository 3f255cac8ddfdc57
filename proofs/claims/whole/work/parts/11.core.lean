/-! inherited fields, super calls, overriding methods, constructors, new cells -/
section GR2
variable {K : KX} {l0 : Launch} {E0 : EX} {own : String} {Ts : List Cond} {cc : ByteArray} {rm : Room} {n0 cs sl pc : Nat} {lv lv' : List (Nat × Value)} {st : List Value} {ws ws' : va_W}
theorem g_getS (C : CX K l0 E0 own Ts cc rm n0) {Cn ref : String} {T : u_T} {N ci index a : Nat} (hin : ∀ w ∈ u_ws Cn T N, w ∈ Ts) (q0 : Nat) {fs : List Value} (he : ws[q0]? = some (a, .inr (ci, fs))) (hc : vwCl[ci]? = some (Cn, T, N)) (k : Nat) (hk : k < N) (hlink : Cond.fieldLink own index ref (T k).2.1 (T k).2.2.1 ∈ Ts) (hsame : Cond.sameField ref (T k).1 (T k).2.1 (T k).2.2.1 ∈ Ts) {v : Value} (hv : fs[k]? = some v) (hdg : decode cc pc = .ok (.getfield index, 3))
    (kk : G K cs sl (pc + 3) lv (v :: st) ws) : G K cs sl pc lv (.ref a :: st) ws := by
  obtain ⟨p, l, e, R, s, m, args, below, meth, c, E, A, nL, Q⟩ := K
  obtain ⟨hx, hb, hml, hown, hts, hK, hA, rfl, rfl, rfl, rfl⟩ := C
  exact fun H locs ls hP hD hS h => va_get hx hb hts hin hown hK hP q0 he hc k hk (hts _ hlink) (fun x z => u_same (hts _ hsame) x z) hv hdg (kk H locs ls hP hD hS h)
theorem g_putS (C : CX K l0 E0 own Ts cc rm n0) {Cn ref : String} {T : u_T} {N ci index a : Nat} (hin : ∀ w ∈ u_ws Cn T N, w ∈ Ts) (ty0 : Nat → FieldType) (hty : ∀ k, k < N → parseFieldDescriptor (T k).2.2.1 = some (ty0 k)) (hnm : ∀ a, a < N → ∀ b, b < N → a ≠ b → (T a).2.1 ≠ (T b).2.1) (q0 : Nat) {fs : List Value} (he : ws[q0]? = some (a, .inr (ci, fs))) (hc : vwCl[ci]? = some (Cn, T, N)) (k : Nat) (hk : k < N) (hlink : Cond.fieldLink own index ref (T k).2.1 (T k).2.2.1 ∈ Ts) (hsame : Cond.sameField ref (T k).1 (T k).2.1 (T k).2.2.1 ∈ Ts) (hfin : (T k).2.2.2 = false) {ty : FieldType} {v : Value} (hd : ty0 k = ty) (hn : narrow ty v = v) (hfit : fits ty v = true) (hl : k < fs.length) (hdg : decode cc pc = .ok (.putfield index, 3)) (hw : ws.set q0 (a, .inr (ci, fs.set k v)) = ws')
    (kk : G K cs sl (pc + 3) lv st ws') : G K cs sl pc lv (v :: .ref a :: st) ws := by
  obtain ⟨p, l, e, R, s, m, args, below, meth, c, E, A, nL, Q⟩ := K
  obtain ⟨hx, hb, hml, hown, hts, hK, hA, rfl, rfl, rfl, rfl⟩ := C
  subst hw
  subst hd
  exact fun H locs ls hP hD hS h => va_put hx hb hts hin ty0 hty hnm hown hK hP hD hS q0 he hc k hk (hts _ hlink) (fun x z => u_same (hts _ hsame) x z) hfin (hty k hk) hn hfit hl hdg (fun H1 locs1 hP hD hS => kk H1 locs1 ls hP hD hS h)

theorem g_callSU (C : CX K l0 E0 own Ts cc rm n0) {y : MethodName} {wsy wsy' : List Cond} {rmy : Room} {bytes : ByteArray} {maxL index mc ms : Nat} {ret : Option FieldType} {Po : Option Value → va_W → Prop} {wc : va_W} {rest As : List Value} {n : Nat} {b : Nat} {Cn : String} (hM : M l0 E0 y wsy rmy mc ms (.ref b :: As) wc Po) (hG : GoodIn Ts (va_wsSU own index y wsy)) (hw : wsy = Cond.code y bytes maxL ret :: wsy') (hcs : rmy.cells = mc ∧ rmy.slots = ms) (hR : rmy.frames + 1 ≤ rm.frames ∧ 8 + (maxL + 11) + rmy.locals ≤ rm.locals ∧ cs + mc ≤ rm.cells ∧ sl + ms ≤ rm.slots) (hcat : (rest.map fun v => v.category).sum ≤ 8) (hn : As.length = n) (hd : y.name ≠ "<init>" ∧ (parseMethodDescriptor y.desc).map (fun d => d.parameters.length) = some n)
    (hst : st = As.reverse ++ .ref b :: rest) (hdg : decode cc pc = .ok (.invokespecial index, 3)) {ci : Nat} {T : u_T} {N : Nat} {fs : List Value} (q0 : Nat) (hq : wc[q0]? = some (b, .inr (ci, fs))) (hcl : vwCl[ci]? = some (Cn, T, N)) (isC isR : List Nat) (ok : okP ws.length isC isR = true) (hC : isC.map (fun i => ws[i]?) = wc.map some) (kk : ∀ v w', Po v w' → G K (cs + mc) (sl + ms) (pc + 3) lv (v.toList ++ rest) (wpk ws isR ++ w')) : G K cs sl pc lv st ws := by
  obtain ⟨p, l, e, R, s, m, args, below, meth, c, E, A, nL, Q⟩ := K
  obtain ⟨hx, hb, hml, hown, hts, hK, hA, rfl, rfl, rfl, rfl⟩ := C
  intro H locs ls hP hD hS h
  subst hst
  refine g_run (a := (Value.ref b :: As).toArray) hA isC isR ok hC hP hD hS h (fun hPc hDc => ?_) kk
  exact va_runSU (hK.1 ci _ hcl).2 ⟨hx, hb, hml, hown, hts⟩ (hM H.size) (va_cwSU n hts hG hw hcs.1 hcs.2 hd ⟨hR.1, hR.2.1⟩) ⟨frameBlind, va_recv hK hPc hcl hq, fun U hU hW => ⟨rfl, by rw [hU], by rw [hU]; exact hPc, va_K.moved hW.alike hK, hDc⟩⟩ rfl hn h.1 rfl (lv_room hcat) hdg ⟨hR.2.2.1, hR.2.2.2⟩
theorem g_callO (C : CX K l0 E0 own Ts cc rm n0) {y : MethodName} {wsy wsy' : List Cond} {rmy : Room} {bytes : ByteArray} {maxL index mc ms : Nat} {ret : Option FieldType} {Po : Option Value → va_W → Prop} {wc : va_W} {rest As : List Value} {n : Nat} {b : Nat} {Cn owner : String} {x : MethodName} (hM : M l0 E0 y wsy rmy mc ms (.ref b :: As) wc Po) (hG : GoodIn Ts (va_wsO own index Cn owner x y wsy)) (hw : wsy = Cond.code y bytes maxL ret :: wsy') (hcs : rmy.cells = mc ∧ rmy.slots = ms) (hR : rmy.frames + 1 ≤ rm.frames ∧ 8 + (maxL + 11) + rmy.locals ≤ rm.locals ∧ cs + mc ≤ rm.cells ∧ sl + ms ≤ rm.slots) (hcat : (rest.map fun v => v.category).sum ≤ 8) (hn : As.length = n) {b0 : ByteArray} {m0 : Nat} {r0 : Option FieldType} (h0 : Cond.code ⟨owner, x.name, x.desc⟩ b0 m0 r0 ∈ Ts) (hd : owner ≠ "java/lang/invoke/MethodHandle" ∧ owner ≠ "java/lang/invoke/VarHandle" ∧ (parseMethodDescriptor x.desc).map (fun d => d.parameters.length) = some n)
    (hst : st = As.reverse ++ .ref b :: rest) (hdg : decode cc pc = .ok (.invokevirtual index, 3)) {ci : Nat} {T : u_T} {N : Nat} {fs : List Value} (q0 : Nat) (hq : wc[q0]? = some (b, .inr (ci, fs))) (hcl : vwCl[ci]? = some (Cn, T, N)) (isC isR : List Nat) (ok : okP ws.length isC isR = true) (hC : isC.map (fun i => ws[i]?) = wc.map some) (kk : ∀ v w', Po v w' → G K (cs + mc) (sl + ms) (pc + 3) lv (v.toList ++ rest) (wpk ws isR ++ w')) : G K cs sl pc lv st ws := by
  obtain ⟨p, l, e, R, s, m, args, below, meth, c, E, A, nL, Q⟩ := K
  obtain ⟨hx, hb, hml, hown, hts, hK, hA, rfl, rfl, rfl, rfl⟩ := C
  intro H locs ls hP hD hS h
  subst hst
  refine g_run (a := (Value.ref b :: As).toArray) hA isC isR ok hC hP hD hS h (fun hPc hDc => ?_) kk
  exact va_runU ⟨hx, hb, hml, hown, hts⟩ (hM H.size) (va_cwO n hts hG hw hcs.1 hcs.2 h0 hd ⟨hR.1, hR.2.1⟩) ⟨frameBlind, va_recv hK hPc hcl hq, fun U hU hW => ⟨rfl, by rw [hU], by rw [hU]; exact hPc, va_K.moved hW.alike hK, hDc⟩⟩ rfl hn h.1 rfl (lv_room hcat) hdg ⟨hR.2.2.1, hR.2.2.2⟩
theorem g_ifnonnull (C : CX K l0 E0 own Ts cc rm n0) {x : Nat} {off : Int} (tgt : Nat) (hdg : decode cc pc = .ok (.ifnonnull off, 3)) (ht : (pc : Int) + off = (tgt : Int)) (kk : G K cs sl tgt lv st ws) : G K cs sl pc lv (.ref x :: st) ws := by
  obtain ⟨p, l, e, R, s, m, args, below, meth, c, E, A, nL, Q⟩ := K
  obtain ⟨hx, hb, hml, hown, hts, hK, hA, rfl, rfl, rfl, rfl⟩ := C
  exact fun H locs ls hP hD hS h => lv_ifnonnull hx hb hdg ht (kk H locs ls hP hD hS h)
end GR2
