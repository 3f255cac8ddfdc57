/-! PillowCourt: what its calls share -/
abbrev zo (x : Int32) : Prop := x = nI 0 ∨ x = nI 1
def fewS (x y : Int32) : Int32 := if x = (-9) then y else if bc x ≤ bc y then x else y
def sfS (kn f : Nat → Int32) (np p : Nat) : Nat → Int32
  | 0 => nI 0
  | k + 1 => if knT kn (slOn f k 6 &&& (nI (2 ^ p) ^^^ (-1))) np &&& kn p = 0 then sfS kn f np p k ||| nI (2 ^ k) else sfS kn f np p k
def lstS (kn ta f : Nat → Int32) (z nt : Int32) (e : Nat → Int32) : Nat → Nat → Int32
  | 0 => filA e (nI 0) 6
  | k + 1 => if inR (f (42 + k)) 6 ∧ ¬ sayS kn ta k z nt < 0 then upd (lstS kn ta f z nt e k) (f (42 + k)).toNatClampNeg (lstS kn ta f z nt e k (f (42 + k)).toNatClampNeg ||| nI (2 ^ (sayS kn ta k z nt).toNatClampNeg)) else lstS kn ta f z nt e k
abbrev agP (e a1 a2 a3 : Nat → Int32) (k : Nat) : Prop := (e (a1 k).toNatClampNeg >>> (a2 k &&& 31)) &&& nI 1 = a3 k
abbrev agN (nt : Nat) (e a1 a2 a3 : Nat → Int32) : Prop := ∀ k, k < nt → agP e a1 a2 a3 k
def gcdS : Nat → Int32 → Int32 → Int32
  | 0, x, _ => x
  | z + 1, x, y => if y = 0 then x else gcdS z y (irm x y)
def gcS (a b : Int32) : Int32 := if gcdS 100 a b = 0 then nI 1 else gcdS 100 a b
def powS (b : Int32) : Nat → Int64
  | 0 => 1
  | k + 1 => powS b k * b.toInt64
theorem lstS_n {kn ta f : Nat → Int32} {z nt : Int32} {e : Nat → Int32} {k : Nat} (h : ¬ (inR (f (42 + k)) 6 ∧ ¬ sayS kn ta k z nt < 0)) : lstS kn ta f z nt e (k + 1) = lstS kn ta f z nt e k := by rw [lstS, if_neg h]
theorem lstS_y {kn ta f : Nat → Int32} {z nt : Int32} {e : Nat → Int32} {k b t : Nat} (hb : b < 6) (ht : t < 7) (h1 : f (42 + k) = nI b) (h2 : sayS kn ta k z nt = nI t) : lstS kn ta f z nt e (k + 1) = upd (lstS kn ta f z nt e k) b (lstS kn ta f z nt e k b ||| nI (2 ^ t)) := by
  rw [lstS, if_pos ⟨by rw [h1]; exact (inR_nI (by omega) (by decide)).mpr hb, by rw [h2]; exact nI_pos (by omega)⟩, h1, h2, nI_clamp (by omega), nI_clamp (by omega)]

set_option maxHeartbeats 4000000 in
set_option maxRecDepth 100000 in
theorem kX11_isThing (l : Launch) (E : EX) (x : Int32)  : M l E yX11_isThing wsX11_isThing { frames := 0, cells := 0, slots := 0, locals := 0 } 0 0 [.int x] [] (is1 (some (.int (bI (inR x 7)))) []) := by
  refine M.ofG (cc := cX11_isThing) (maxL := 1) (ret := (some .boolean)) (lv := [(0, .int x)]) (own := RX11) (by decide) rfl rfl (Nat.le_of_ble_eq_true rfl) rfl ?_
  intro K C X _
  refine g_iload_n C dX11_isThing_0 rfl 0 rfl ?_
  refine g_if_lt C 14 dX11_isThing_1 (by decide) (fun cq1 => ?_) (fun cq1 => ?_)
  · refine g_iconst C (nI 0) dX11_isThing_14 (by decide) ?_
    exact g_zret C X rfl dX11_isThing_15 (⟨congrArg (fun z => some (Value.int z)) (bI_f (by simp [cq1])).symm, rfl⟩)
  · refine g_iload_n C dX11_isThing_4 rfl 0 rfl ?_
    refine g_bipush C (nI 7) dX11_isThing_5 (by decide) ?_
    refine g_icmp_ge C 14 dX11_isThing_7 (by decide) (fun cq2 => ?_) (fun cq2 => ?_)
    · refine g_iconst C (nI 0) dX11_isThing_14 (by decide) ?_
      exact g_zret C X rfl dX11_isThing_15 (⟨congrArg (fun z => some (Value.int z)) (bI_f (by simp [cq1, cq2])).symm, rfl⟩)
    · refine g_iconst C (nI 1) dX11_isThing_10 (by decide) ?_
      refine g_goto C 15 dX11_isThing_11 (by decide) ?_
      exact g_zret C X rfl dX11_isThing_15 (⟨congrArg (fun z => some (Value.int z)) (bI_t (⟨cq1, cq2⟩)).symm, rfl⟩)

set_option maxHeartbeats 4000000 in
set_option maxRecDepth 100000 in
theorem kX11_isDraw (l : Launch) (E : EX) (x : Int32)  : M l E yX11_isDraw wsX11_isDraw { frames := 0, cells := 0, slots := 0, locals := 0 } 0 0 [.int x] [] (is1 (some (.int (bI (inR x 10000)))) []) := by
  refine M.ofG (cc := cX11_isDraw) (maxL := 1) (ret := (some .boolean)) (lv := [(0, .int x)]) (own := RX11) (by decide) rfl rfl (Nat.le_of_ble_eq_true rfl) rfl ?_
  intro K C X _
  refine g_iload_n C dX11_isDraw_0 rfl 0 rfl ?_
  refine g_if_lt C 15 dX11_isDraw_1 (by decide) (fun cq1 => ?_) (fun cq1 => ?_)
  · refine g_iconst C (nI 0) dX11_isDraw_15 (by decide) ?_
    exact g_zret C X rfl dX11_isDraw_16 (⟨congrArg (fun z => some (Value.int z)) (bI_f (by simp [cq1])).symm, rfl⟩)
  · refine g_iload_n C dX11_isDraw_4 rfl 0 rfl ?_
    refine g_sipush C (nI 10000) dX11_isDraw_5 (by decide) ?_
    refine g_icmp_ge C 15 dX11_isDraw_8 (by decide) (fun cq2 => ?_) (fun cq2 => ?_)
    · refine g_iconst C (nI 0) dX11_isDraw_15 (by decide) ?_
      exact g_zret C X rfl dX11_isDraw_16 (⟨congrArg (fun z => some (Value.int z)) (bI_f (by simp [cq1, cq2])).symm, rfl⟩)
    · refine g_iconst C (nI 1) dX11_isDraw_11 (by decide) ?_
      refine g_goto C 16 dX11_isDraw_12 (by decide) ?_
      exact g_zret C X rfl dX11_isDraw_16 (⟨congrArg (fun z => some (Value.int z)) (bI_t (⟨cq1, cq2⟩)).symm, rfl⟩)

set_option maxHeartbeats 4000000 in
set_option maxRecDepth 100000 in
theorem kX11_isZeroOrOne (l : Launch) (E : EX) (x : Int32)  : M l E yX11_isZeroOrOne wsX11_isZeroOrOne { frames := 0, cells := 0, slots := 0, locals := 0 } 0 0 [.int x] [] (is1 (some (.int (bI (zo x)))) []) := by
  refine M.ofG (cc := cX11_isZeroOrOne) (maxL := 1) (ret := (some .boolean)) (lv := [(0, .int x)]) (own := RX11) (by decide) rfl rfl (Nat.le_of_ble_eq_true rfl) rfl ?_
  intro K C X _
  refine g_iload_n C dX11_isZeroOrOne_0 rfl 0 rfl ?_
  refine g_if_eq C 9 dX11_isZeroOrOne_1 (by decide) (fun cq1 => ?_) (fun cq1 => ?_)
  · refine g_iconst C (nI 1) dX11_isZeroOrOne_9 (by decide) ?_
    refine g_goto C 14 dX11_isZeroOrOne_10 (by decide) ?_
    exact g_zret C X rfl dX11_isZeroOrOne_14 (⟨congrArg (fun z => some (Value.int z)) (bI_t (by first | exact Or.inl cq1 | exact Or.inr cq1)).symm, rfl⟩)
  · refine g_iload_n C dX11_isZeroOrOne_4 rfl 0 rfl ?_
    refine g_iconst C (nI 1) dX11_isZeroOrOne_5 (by decide) ?_
    refine g_icmp_ne C 13 dX11_isZeroOrOne_6 (by decide) (fun cq2 => ?_) (fun cq2 => ?_)
    · refine g_iconst C (nI 0) dX11_isZeroOrOne_13 (by decide) ?_
      exact g_zret C X rfl dX11_isZeroOrOne_14 (⟨congrArg (fun z => some (Value.int z)) (bI_f (fun z => z.elim cq1 cq2)).symm, rfl⟩)
    · refine g_iconst C (nI 1) dX11_isZeroOrOne_9 (by decide) ?_
      refine g_goto C 14 dX11_isZeroOrOne_10 (by decide) ?_
      exact g_zret C X rfl dX11_isZeroOrOne_14 (⟨congrArg (fun z => some (Value.int z)) (bI_t (by first | exact Or.inl cq2 | exact Or.inr cq2)).symm, rfl⟩)

set_option maxHeartbeats 4000000 in
set_option maxRecDepth 100000 in
theorem kX11_areTwoPillows (l : Launch) (E : EX) (c0 r0 h0 s0 g0 ka n1 n2 n3 ea t0 u0 nt : Nat) (tr : Int64) (t1 t2 t3 : Nat) (T : TS) (a b : Int32)  : M l E yX11_areTwoPillows wsX11_areTwoPillows { frames := 1, cells := 0, slots := 0, locals := 21 } 0 0 [.ref c0, .int a, .int b] [(c0, oB 11 [.ref r0, .ref h0, .ref s0, .ref g0, .ref ka, .ref n1, .ref n2, .ref n3, .ref ea, .ref t0, .ref u0, .int (nI nt), .long tr]), (t0, oB 10 [.ref t1, .ref t2, .ref t3, .int (nI T.1), .int (nI T.2.1)])] (is1 (some (.int (bI (inR a T.2.1 ∧ inR b T.2.1 ∧ ¬ a = b)))) [(c0, oB 11 [.ref r0, .ref h0, .ref s0, .ref g0, .ref ka, .ref n1, .ref n2, .ref n3, .ref ea, .ref t0, .ref u0, .int (nI nt), .long tr]), (t0, oB 10 [.ref t1, .ref t2, .ref t3, .int (nI T.1), .int (nI T.2.1)])]) := by
  refine M.ofG (cc := cX11_areTwoPillows) (maxL := 3) (ret := (some .boolean)) (lv := [(0, .ref c0), (1, .int a), (2, .int b)]) (own := RX11) (by decide) rfl rfl (Nat.le_of_ble_eq_true rfl) rfl ?_
  intro K C X _
  have i11 : ∀ w ∈ wsX110, w ∈ wsX11_areTwoPillows := by decide +kernel
  refine g_aload_n C dX11_areTwoPillows_0 rfl 0 rfl ?_
  refine g_get C i11 0 rfl rfl 9 (by decide) (List.mem_of_getElem? (i := 1) rfl) rfl rfl dX11_areTwoPillows_1 ?_
  refine g_iload_n C dX11_areTwoPillows_4 rfl 1 rfl ?_
  refine g_callV C (rest := []) (n := 1) (kX10_hasPillow l E t0 t1 t2 t3 T.1 T.2.1 a ) gX11_areTwoPillows_X10_hasPillow rfl ⟨rfl, rfl⟩ (by decide) (Nat.le_of_ble_eq_true rfl) rfl (by decide +kernel) rfl dX11_areTwoPillows_5 0 rfl rfl [1] [0] rfl rfl ?_
  refine g_is1 (ws2 := [(c0, oB 11 [.ref r0, .ref h0, .ref s0, .ref g0, .ref ka, .ref n1, .ref n2, .ref n3, .ref ea, .ref t0, .ref u0, .int (nI nt), .long tr]), (t0, oB 10 [.ref t1, .ref t2, .ref t3, .int (nI T.1), .int (nI T.2.1)])]) (st2 := [.int (bI (inR a T.2.1))]) [0, 1] rfl rfl rfl ?_
  refine g_if_eqB C 31 dX11_areTwoPillows_8 (by decide) (fun cq1 => ?_) (fun cq1 => ?_)
  · refine g_iconst C (nI 0) dX11_areTwoPillows_31 (by decide) ?_
    exact g_zret C X rfl dX11_areTwoPillows_32 (⟨congrArg (fun z => some (Value.int z)) (bI_f (by first | exact fun z => cq1 z.1 | exact fun z => cq1 z.2.1 | exact fun z => z.2.2 cq1)).symm, rfl⟩)
  · refine g_aload_n C dX11_areTwoPillows_11 rfl 0 rfl ?_
    refine g_get C i11 0 rfl rfl 9 (by decide) (List.mem_of_getElem? (i := 1) rfl) rfl rfl dX11_areTwoPillows_12 ?_
    refine g_iload_n C dX11_areTwoPillows_15 rfl 2 rfl ?_
    refine g_callV C (rest := []) (n := 1) (kX10_hasPillow l E t0 t1 t2 t3 T.1 T.2.1 b ) gX11_areTwoPillows_X10_hasPillow rfl ⟨rfl, rfl⟩ (by decide) (Nat.le_of_ble_eq_true rfl) rfl (by decide +kernel) rfl dX11_areTwoPillows_16 0 rfl rfl [1] [0] rfl rfl ?_
    refine g_is1 (ws2 := [(c0, oB 11 [.ref r0, .ref h0, .ref s0, .ref g0, .ref ka, .ref n1, .ref n2, .ref n3, .ref ea, .ref t0, .ref u0, .int (nI nt), .long tr]), (t0, oB 10 [.ref t1, .ref t2, .ref t3, .int (nI T.1), .int (nI T.2.1)])]) (st2 := [.int (bI (inR b T.2.1))]) [0, 1] rfl rfl rfl ?_
    refine g_if_eqB C 31 dX11_areTwoPillows_19 (by decide) (fun cq2 => ?_) (fun cq2 => ?_)
    · refine g_iconst C (nI 0) dX11_areTwoPillows_31 (by decide) ?_
      exact g_zret C X rfl dX11_areTwoPillows_32 (⟨congrArg (fun z => some (Value.int z)) (bI_f (by first | exact fun z => cq2 z.1 | exact fun z => cq2 z.2.1 | exact fun z => z.2.2 cq2)).symm, rfl⟩)
    · refine g_iload_n C dX11_areTwoPillows_22 rfl 1 rfl ?_
      refine g_iload_n C dX11_areTwoPillows_23 rfl 2 rfl ?_
      refine g_icmp_eq C 31 dX11_areTwoPillows_24 (by decide) (fun cq3 => ?_) (fun cq3 => ?_)
      · refine g_iconst C (nI 0) dX11_areTwoPillows_31 (by decide) ?_
        exact g_zret C X rfl dX11_areTwoPillows_32 (⟨congrArg (fun z => some (Value.int z)) (bI_f (by first | exact fun z => cq3 z.1 | exact fun z => cq3 z.2.1 | exact fun z => z.2.2 cq3)).symm, rfl⟩)
      · refine g_iconst C (nI 1) dX11_areTwoPillows_27 (by decide) ?_
        refine g_goto C 32 dX11_areTwoPillows_28 (by decide) ?_
        exact g_zret C X rfl dX11_areTwoPillows_32 (⟨congrArg (fun z => some (Value.int z)) (bI_t (⟨cq1, cq2, cq3⟩)).symm, rfl⟩)

set_option maxHeartbeats 4000000 in
set_option maxRecDepth 100000 in
theorem kX11_fewerOf (l : Launch) (E : EX) (x y : Int32)  : M l E yX11_fewerOf wsX11_fewerOf { frames := 1, cells := 0, slots := 0, locals := 20 } 0 0 [.int x, .int y] [] (is1 (some (.int (fewS x y))) []) := by
  refine M.ofG (cc := cX11_fewerOf) (maxL := 2) (ret := (some .int)) (lv := [(0, .int x), (1, .int y)]) (own := RX11) (by decide) rfl rfl (Nat.le_of_ble_eq_true rfl) rfl ?_
  intro K C X _
  refine g_iload_n C dX11_fewerOf_0 rfl 0 rfl ?_
  refine g_bipush C ((-9)) dX11_fewerOf_1 (by decide) ?_
  refine g_icmp_eq C 17 dX11_fewerOf_3 (by decide) (fun cq1 => ?_) (fun cq1 => ?_)
  · refine g_iload_n C dX11_fewerOf_17 rfl 1 rfl ?_
    refine g_goto C 22 dX11_fewerOf_18 (by decide) ?_
    exact g_iret C X dX11_fewerOf_22 (⟨by unfold fewS; first | (rw [if_pos cq1]; done) | (rw [if_neg cq1, if_pos trivial]; done) | (rw [if_neg cq1, if_neg trivial]; done), rfl⟩)
  · refine g_iload_n C dX11_fewerOf_6 rfl 1 rfl ?_
    refine g_callS C (rest := []) (n := 1) (kJ6_bitCount_0f7a4 l E y ) gX11_fewerOf_J6_bitCount_0f7a4 rfl ⟨rfl, rfl⟩ (by decide) (Nat.le_of_ble_eq_true rfl) rfl (by decide +kernel) rfl dX11_fewerOf_7 [] [] rfl rfl ?_
    refine g_is1 (ws2 := []) (st2 := [.int (bc y)]) [] rfl rfl rfl ?_
    refine g_iload_n C dX11_fewerOf_10 rfl 0 rfl ?_
    refine g_callS C (rest := [.int (bc y)]) (n := 1) (kJ6_bitCount_0f7a4 l E x ) gX11_fewerOf_J6_bitCount_0f7a4 rfl ⟨rfl, rfl⟩ (by decide) (Nat.le_of_ble_eq_true rfl) rfl (by decide +kernel) rfl dX11_fewerOf_11 [] [] rfl rfl ?_
    refine g_is1 (ws2 := []) (st2 := [.int (bc x), .int (bc y)]) [] rfl rfl rfl ?_
    refine g_icmp_ge C 21 dX11_fewerOf_14 (by decide) (fun cq2 => ?_) (fun cq2 => ?_)
    · refine g_iload_n C dX11_fewerOf_21 rfl 0 rfl ?_
      exact g_iret C X dX11_fewerOf_22 (⟨by unfold fewS; first | (rw [if_pos cq1]; done) | (rw [if_neg cq1, if_pos cq2]; done) | (rw [if_neg cq1, if_neg cq2]; done), rfl⟩)
    · refine g_iload_n C dX11_fewerOf_17 rfl 1 rfl ?_
      refine g_goto C 22 dX11_fewerOf_18 (by decide) ?_
      exact g_iret C X dX11_fewerOf_22 (⟨by unfold fewS; first | (rw [if_pos cq1]; done) | (rw [if_neg cq1, if_pos cq2]; done) | (rw [if_neg cq1, if_neg cq2]; done), rfl⟩)

set_option maxHeartbeats 4000000 in
set_option maxRecDepth 100000 in
theorem kX11_safePillows (l : Launch) (E : EX) (c0 r0 h0 s0 g0 ka n1 n2 n3 ea t0 u0 nt : Nat) (tr : Int64) (t1 t2 t3 : Nat) (T : TS) (h1 : Nat) (f : Nat → Int32) (p : Nat) (hn : T.1 ≤ 6) (hm : T.2.1 ≤ 6) (hp : p < 6) : M l E yX11_safePillows wsX11_safePillows { frames := 2, cells := 0, slots := 0, locals := 44 } 0 0 [.ref c0, .int (nI p)] [(c0, oB 11 [.ref r0, .ref h0, .ref s0, .ref g0, .ref ka, .ref n1, .ref n2, .ref n3, .ref ea, .ref t0, .ref u0, .int (nI nt), .long tr]), (t0, oB 10 [.ref t1, .ref t2, .ref t3, .int (nI T.1), .int (nI T.2.1)]), (t1, iA E 6 T.2.2.1), (h0, oB 8 [.ref h1]), (h1, iA E 50 f)] (is1 (some (.int (sfS T.2.2.1 f T.1 p T.2.1))) [(c0, oB 11 [.ref r0, .ref h0, .ref s0, .ref g0, .ref ka, .ref n1, .ref n2, .ref n3, .ref ea, .ref t0, .ref u0, .int (nI nt), .long tr]), (t0, oB 10 [.ref t1, .ref t2, .ref t3, .int (nI T.1), .int (nI T.2.1)]), (t1, iA E 6 T.2.2.1), (h0, oB 8 [.ref h1]), (h1, iA E 50 f)]) := by
  refine M.ofG (cc := cX11_safePillows) (maxL := 5) (ret := (some .int)) (lv := [(0, .ref c0), (1, .int (nI p))]) (own := RX11) (by decide) rfl rfl (Nat.le_of_ble_eq_true rfl) rfl ?_
  intro K C X _
  have i10 : ∀ w ∈ wsX100, w ∈ wsX11_safePillows := by decide +kernel
  have i11 : ∀ w ∈ wsX110, w ∈ wsX11_safePillows := by decide +kernel
  refine g_iconst C (nI 0) dX11_safePillows_0 (by decide) ?_
  refine g_istore_n C (lv' := [(2, .int (nI 0)), (0, .ref c0), (1, .int (nI p))]) dX11_safePillows_1 rfl (by decide) rfl ?_
  refine g_iconst C (nI 0) dX11_safePillows_2 (by decide) ?_
  refine g_istore_n C (lv' := [(3, .int (nI 0)), (2, .int (nI 0)), (0, .ref c0), (1, .int (nI p))]) dX11_safePillows_3 rfl (by decide) rfl ?_
  have L4 : ∀ (zz k : Nat) (a : Int32), k + zz = T.2.1 + 1 → k ≤ T.2.1 → (a = sfS T.2.2.1 f T.1 p k) → G K 0 0 4 [(0, .ref c0), (1, .int (nI p)), (2, .int a), (3, .int (nI k))] [] [(c0, oB 11 [.ref r0, .ref h0, .ref s0, .ref g0, .ref ka, .ref n1, .ref n2, .ref n3, .ref ea, .ref t0, .ref u0, .int (nI nt), .long tr]), (t0, oB 10 [.ref t1, .ref t2, .ref t3, .int (nI T.1), .int (nI T.2.1)]), (t1, iA E 6 T.2.2.1), (h0, oB 8 [.ref h1]), (h1, iA E 50 f)] := by
    intro zz
    induction zz with
    | zero => intro k a hL4 gL4; exfalso; omega
    | succ zz ihL4 =>
      intro k a hL4 gL4 ha
      refine g_iload_n C dX11_safePillows_4 rfl 3 rfl ?_
      refine g_aload_n C dX11_safePillows_5 rfl 0 rfl ?_
      refine g_get C i11 0 rfl rfl 9 (by decide) (List.mem_of_getElem? (i := 1) rfl) rfl rfl dX11_safePillows_6 ?_
      refine g_get C i10 1 rfl rfl 4 (by decide) (List.mem_of_getElem? (i := 2) rfl) rfl rfl dX11_safePillows_9 ?_
      refine g_icmp_geN C 65 dX11_safePillows_12 (by decide) (by omega) (by omega) (fun cq1 => ?_) (fun cq1 => ?_)
      · have hk : k = T.2.1 := by omega
        refine g_iload_n C dX11_safePillows_65 rfl 2 rfl ?_
        exact g_iret C X dX11_safePillows_66 (⟨by rw [ha, hk], rfl⟩)
      · refine g_aload_n C dX11_safePillows_15 rfl 0 rfl ?_
        refine g_get C i11 0 rfl rfl 1 (by decide) (List.mem_of_getElem? (i := 3) rfl) rfl rfl dX11_safePillows_16 ?_
        refine g_iload_n C dX11_safePillows_19 rfl 3 rfl ?_
        refine g_callV C (rest := []) (n := 1) (kX8_sleepersOn l E h0 h1 f k ) gX11_safePillows_X8_sleepersOn rfl ⟨rfl, rfl⟩ (by decide) (Nat.le_of_ble_eq_true rfl) rfl (by decide +kernel) rfl dX11_safePillows_20 0 rfl rfl [3, 4] [0, 1, 2] rfl rfl ?_
        refine g_is1 (ws2 := [(c0, oB 11 [.ref r0, .ref h0, .ref s0, .ref g0, .ref ka, .ref n1, .ref n2, .ref n3, .ref ea, .ref t0, .ref u0, .int (nI nt), .long tr]), (t0, oB 10 [.ref t1, .ref t2, .ref t3, .int (nI T.1), .int (nI T.2.1)]), (t1, iA E 6 T.2.2.1), (h0, oB 8 [.ref h1]), (h1, iA E 50 f)]) (st2 := [.int (slOn f k 6)]) [0, 1, 2, 3, 4] rfl rfl rfl ?_
        refine g_iconst C (nI 1) dX11_safePillows_23 (by decide) ?_
        refine g_iload_n C dX11_safePillows_24 rfl 1 rfl ?_
        refine g_ishl1 C dX11_safePillows_25 (by omega) ?_
        refine g_iconst C ((-1)) dX11_safePillows_26 (by decide) ?_
        refine g_ixor C dX11_safePillows_27 ?_
        refine g_iand C dX11_safePillows_28 ?_
        refine g_istore C (lv' := [(4, .int ((slOn f k 6) &&& ((nI (2 ^ p)) ^^^ (-1)))), (0, .ref c0), (1, .int (nI p)), (2, .int a), (3, .int (nI k))]) dX11_safePillows_29 (by decide) rfl ?_
        refine g_aload_n C dX11_safePillows_31 rfl 1 rfl ?_
        refine g_get C i11 0 rfl rfl 9 (by decide) (List.mem_of_getElem? (i := 1) rfl) rfl rfl dX11_safePillows_32 ?_
        refine g_iload C dX11_safePillows_35 0 rfl ?_
        refine g_callV C (rest := []) (n := 1) (kX10_knownTo l E t0 t1 t2 t3 T.1 T.2.1 T.2.2.1 ((slOn f k 6) &&& ((nI (2 ^ p)) ^^^ (-1))) (by omega)) gX11_safePillows_X10_knownTo rfl ⟨rfl, rfl⟩ (by decide) (Nat.le_of_ble_eq_true rfl) rfl (by decide +kernel) rfl dX11_safePillows_37 0 rfl rfl [1, 2] [0, 3, 4] rfl rfl ?_
        refine g_is1 (ws2 := [(c0, oB 11 [.ref r0, .ref h0, .ref s0, .ref g0, .ref ka, .ref n1, .ref n2, .ref n3, .ref ea, .ref t0, .ref u0, .int (nI nt), .long tr]), (t0, oB 10 [.ref t1, .ref t2, .ref t3, .int (nI T.1), .int (nI T.2.1)]), (t1, iA E 6 T.2.2.1), (h0, oB 8 [.ref h1]), (h1, iA E 50 f)]) (st2 := [.int (knT T.2.2.1 ((slOn f k 6) &&& ((nI (2 ^ p)) ^^^ (-1))) T.1)]) [0, 3, 4, 1, 2] rfl rfl rfl ?_
        refine g_aload_n C dX11_safePillows_40 rfl 1 rfl ?_
        refine g_get C i11 0 rfl rfl 9 (by decide) (List.mem_of_getElem? (i := 1) rfl) rfl rfl dX11_safePillows_41 ?_
        refine g_get C i10 1 rfl rfl 0 (by decide) (List.mem_of_getElem? (i := 4) rfl) rfl rfl dX11_safePillows_44 ?_
        refine g_iload_n C dX11_safePillows_47 rfl 2 rfl ?_
        refine g_iald C 2 rfl (by omega) (by decide) dX11_safePillows_48 ?_
        refine g_iand C dX11_safePillows_49 ?_
        refine g_if_ne C 59 dX11_safePillows_50 (by decide) (fun cq2 => ?_) (fun cq2 => ?_)
        · refine g_iincN C (lv' := [(3, .int (nI (k + 1))), (4, .int ((slOn f k 6) &&& ((nI (2 ^ p)) ^^^ (-1)))), (0, .ref c0), (1, .int (nI p)), (2, .int a)]) dX11_safePillows_59 4 rfl (by decide) rfl ?_
          refine g_goto C 4 dX11_safePillows_62 (by decide) ?_
          refine g_sub (lv' := [(0, .ref c0), (1, .int (nI p)), (2, .int a), (3, .int (nI (k + 1)))]) [2, 3, 4, 0] rfl ?_
          exact ihL4 (k + 1) a (by omega) (by omega) (by rw [sfS, ← ha]; first | (rw [if_pos cq2]; done) | (rw [if_neg cq2]; done))
        · refine g_iload_n C dX11_safePillows_53 rfl 3 rfl ?_
          refine g_iconst C (nI 1) dX11_safePillows_54 (by decide) ?_
          refine g_iload_n C dX11_safePillows_55 rfl 4 rfl ?_
          refine g_ishl1 C dX11_safePillows_56 (by omega) ?_
          refine g_ior C dX11_safePillows_57 ?_
          refine g_istore_n C (lv' := [(2, .int (a ||| (nI (2 ^ k)))), (4, .int ((slOn f k 6) &&& ((nI (2 ^ p)) ^^^ (-1)))), (0, .ref c0), (1, .int (nI p)), (3, .int (nI k))]) dX11_safePillows_58 rfl (by decide) rfl ?_
          refine g_iincN C (lv' := [(3, .int (nI (k + 1))), (2, .int (a ||| (nI (2 ^ k)))), (4, .int ((slOn f k 6) &&& ((nI (2 ^ p)) ^^^ (-1)))), (0, .ref c0), (1, .int (nI p))]) dX11_safePillows_59 4 rfl (by decide) rfl ?_
          refine g_goto C 4 dX11_safePillows_62 (by decide) ?_
          refine g_sub (lv' := [(0, .ref c0), (1, .int (nI p)), (2, .int (a ||| (nI (2 ^ k)))), (3, .int (nI (k + 1)))]) [3, 4, 1, 0] rfl ?_
          exact ihL4 (k + 1) (a ||| (nI (2 ^ k))) (by omega) (by omega) (by rw [sfS, ← ha]; first | (rw [if_pos cq2]; done) | (rw [if_neg cq2]; done))
  refine g_sub (lv' := [(0, .ref c0), (1, .int (nI p)), (2, .int (nI 0)), (3, .int (nI 0))]) [2, 3, 1, 0] rfl ?_
  exact L4 (T.2.1 + 1 - 0) 0 (nI 0) (by omega) (by omega) (by first | rfl | omega | (simp []; done))

set_option maxHeartbeats 4000000 in
set_option maxRecDepth 100000 in
theorem kX11_listen (l : Launch) (E : EX) (c0 r0 h0 s0 g0 ka n1 n2 n3 ea t0 u0 nt : Nat) (tr : Int64) (t1 t2 t3 : Nat) (T : TS) (h1 : Nat) (f : Nat → Int32) (ee : Nat → Int32) (z nn : Int32) (hn : T.1 ≤ 6) : M l E yX11_listen wsX11_listen { frames := 2, cells := 0, slots := 0, locals := 50 } 0 0 [.ref c0, .int z, .int nn] [(c0, oB 11 [.ref r0, .ref h0, .ref s0, .ref g0, .ref ka, .ref n1, .ref n2, .ref n3, .ref ea, .ref t0, .ref u0, .int (nI nt), .long tr]), (t0, oB 10 [.ref t1, .ref t2, .ref t3, .int (nI T.1), .int (nI T.2.1)]), (t1, iA E 6 T.2.2.1), (t2, iA E 6 T.2.2.2.1), (h0, oB 8 [.ref h1]), (h1, iA E 50 f), (ea, iA E 6 ee)] (is1 none [(c0, oB 11 [.ref r0, .ref h0, .ref s0, .ref g0, .ref ka, .ref n1, .ref n2, .ref n3, .ref ea, .ref t0, .ref u0, .int (nI nt), .long tr]), (t0, oB 10 [.ref t1, .ref t2, .ref t3, .int (nI T.1), .int (nI T.2.1)]), (t1, iA E 6 T.2.2.1), (t2, iA E 6 T.2.2.2.1), (h0, oB 8 [.ref h1]), (h1, iA E 50 f), (ea, iA E 6 (lstS T.2.2.1 T.2.2.2.1 f z nn ee T.1))]) := by
  refine M.ofG (cc := cX11_listen) (maxL := 6) (ret := none) (lv := [(0, .ref c0), (1, .int z), (2, .int nn)]) (own := RX11) (by decide) rfl rfl (Nat.le_of_ble_eq_true rfl) rfl ?_
  intro K C X _
  have i10 : ∀ w ∈ wsX100, w ∈ wsX11_listen := by decide +kernel
  have i11 : ∀ w ∈ wsX110, w ∈ wsX11_listen := by decide +kernel
  refine g_aload_n C dX11_listen_0 rfl 0 rfl ?_
  refine g_get C i11 0 rfl rfl 8 (by decide) (List.mem_of_getElem? (i := 1) rfl) rfl rfl dX11_listen_1 ?_
  refine g_iconst C (nI 0) dX11_listen_4 (by decide) ?_
  refine g_callS C (rest := []) (n := 2) (kJ7_fill_53178 l E ea 6 ee (nI 0) (by omega)) gX11_listen_J7_fill_53178 rfl ⟨rfl, rfl⟩ (by decide) (Nat.le_of_ble_eq_true rfl) rfl (by decide +kernel) rfl dX11_listen_5 [6] [0, 1, 2, 3, 4, 5] rfl rfl ?_
  refine g_is1 (ws2 := [(c0, oB 11 [.ref r0, .ref h0, .ref s0, .ref g0, .ref ka, .ref n1, .ref n2, .ref n3, .ref ea, .ref t0, .ref u0, .int (nI nt), .long tr]), (t0, oB 10 [.ref t1, .ref t2, .ref t3, .int (nI T.1), .int (nI T.2.1)]), (t1, iA E 6 T.2.2.1), (t2, iA E 6 T.2.2.2.1), (h0, oB 8 [.ref h1]), (h1, iA E 50 f), (ea, iA E 6 (filA ee (nI 0) 6))]) (st2 := []) [0, 1, 2, 3, 4, 5, 6] rfl rfl rfl ?_
  refine g_iconst C (nI 0) dX11_listen_8 (by decide) ?_
  refine g_istore_n C (lv' := [(3, .int (nI 0)), (0, .ref c0), (1, .int z), (2, .int nn)]) dX11_listen_9 rfl (by decide) rfl ?_
  have L10 : ∀ (zz k : Nat) (u : Nat → Int32), k + zz = T.1 + 1 → k ≤ T.1 → (u = lstS T.2.2.1 T.2.2.2.1 f z nn ee k) → G K 0 0 10 [(0, .ref c0), (1, .int z), (2, .int nn), (3, .int (nI k))] [] [(c0, oB 11 [.ref r0, .ref h0, .ref s0, .ref g0, .ref ka, .ref n1, .ref n2, .ref n3, .ref ea, .ref t0, .ref u0, .int (nI nt), .long tr]), (t0, oB 10 [.ref t1, .ref t2, .ref t3, .int (nI T.1), .int (nI T.2.1)]), (t1, iA E 6 T.2.2.1), (t2, iA E 6 T.2.2.2.1), (h0, oB 8 [.ref h1]), (h1, iA E 50 f), (ea, iA E 6 u)] := by
    intro zz
    induction zz with
    | zero => intro k u hL10 gL10; exfalso; omega
    | succ zz ihL10 =>
      intro k u hL10 gL10 hu
      refine g_iload_n C dX11_listen_10 rfl 3 rfl ?_
      refine g_aload_n C dX11_listen_11 rfl 0 rfl ?_
      refine g_get C i11 0 rfl rfl 9 (by decide) (List.mem_of_getElem? (i := 2) rfl) rfl rfl dX11_listen_12 ?_
      refine g_get C i10 1 rfl rfl 3 (by decide) (List.mem_of_getElem? (i := 3) rfl) rfl rfl dX11_listen_15 ?_
      refine g_icmp_geN C 83 dX11_listen_18 (by decide) (by omega) (by omega) (fun cq1 => ?_) (fun cq1 => ?_)
      · have hk : k = T.1 := by omega
        exact g_vret C X dX11_listen_83 (⟨rfl, by rw [hu, hk]⟩)
      · refine g_aload_n C dX11_listen_21 rfl 0 rfl ?_
        refine g_get C i11 0 rfl rfl 1 (by decide) (List.mem_of_getElem? (i := 4) rfl) rfl rfl dX11_listen_22 ?_
        refine g_iload_n C dX11_listen_25 rfl 3 rfl ?_
        refine g_callV C (rest := []) (n := 1) (kX8_bedOf l E h0 h1 f k (by omega)) gX11_listen_X8_bedOf rfl ⟨rfl, rfl⟩ (by decide) (Nat.le_of_ble_eq_true rfl) rfl (by decide +kernel) rfl dX11_listen_26 0 rfl rfl [4, 5] [0, 1, 2, 3, 6] rfl rfl ?_
        refine g_is1 (ws2 := [(c0, oB 11 [.ref r0, .ref h0, .ref s0, .ref g0, .ref ka, .ref n1, .ref n2, .ref n3, .ref ea, .ref t0, .ref u0, .int (nI nt), .long tr]), (t0, oB 10 [.ref t1, .ref t2, .ref t3, .int (nI T.1), .int (nI T.2.1)]), (t1, iA E 6 T.2.2.1), (t2, iA E 6 T.2.2.2.1), (h0, oB 8 [.ref h1]), (h1, iA E 50 f), (ea, iA E 6 u)]) (st2 := [.int (f (42 + k))]) [0, 1, 2, 3, 5, 6, 4] rfl rfl rfl ?_
        refine g_nm (fun yq2 eyq2 => ?_)
        refine g_istore C (lv' := [(4, .int yq2), (0, .ref c0), (1, .int z), (2, .int nn), (3, .int (nI k))]) dX11_listen_29 (by decide) rfl ?_
        refine g_aload_n C dX11_listen_31 rfl 1 rfl ?_
        refine g_get C i11 0 rfl rfl 9 (by decide) (List.mem_of_getElem? (i := 2) rfl) rfl rfl dX11_listen_32 ?_
        refine g_iload_n C dX11_listen_35 rfl 4 rfl ?_
        refine g_iload_n C dX11_listen_36 rfl 2 rfl ?_
        refine g_iload_n C dX11_listen_37 rfl 3 rfl ?_
        refine g_callV C (rest := []) (n := 3) (kX10_thingSaid l E t0 t1 t2 t3 T.1 T.2.1 T.2.2.1 T.2.2.2.1 k z nn (by omega)) gX11_listen_X10_thingSaid rfl ⟨rfl, rfl⟩ (by decide) (Nat.le_of_ble_eq_true rfl) rfl (by decide +kernel) rfl dX11_listen_38 0 rfl rfl [1, 2, 3] [0, 4, 5, 6] rfl rfl ?_
        refine g_is1 (ws2 := [(c0, oB 11 [.ref r0, .ref h0, .ref s0, .ref g0, .ref ka, .ref n1, .ref n2, .ref n3, .ref ea, .ref t0, .ref u0, .int (nI nt), .long tr]), (t0, oB 10 [.ref t1, .ref t2, .ref t3, .int (nI T.1), .int (nI T.2.1)]), (t1, iA E 6 T.2.2.1), (t2, iA E 6 T.2.2.2.1), (h0, oB 8 [.ref h1]), (h1, iA E 50 f), (ea, iA E 6 u)]) (st2 := [.int (sayS T.2.2.1 T.2.2.2.1 k z nn)]) [0, 4, 5, 6, 1, 2, 3] rfl rfl rfl ?_
        refine g_nm (fun yq3 eyq3 => ?_)
        refine g_istore C (lv' := [(5, .int yq3), (4, .int yq2), (0, .ref c0), (1, .int z), (2, .int nn), (3, .int (nI k))]) dX11_listen_41 (by decide) rfl ?_
        refine g_iload C dX11_listen_43 1 rfl ?_
        refine g_if_lt C 77 dX11_listen_45 (by decide) (fun cq4 => ?_) (fun cq4 => ?_)
        · refine g_iincN C (lv' := [(3, .int (nI (k + 1))), (5, .int yq3), (4, .int yq2), (0, .ref c0), (1, .int z), (2, .int nn)]) dX11_listen_77 5 rfl (by decide) rfl ?_
          refine g_goto C 10 dX11_listen_80 (by decide) ?_
          refine g_sub (lv' := [(0, .ref c0), (1, .int z), (2, .int nn), (3, .int (nI (k + 1)))]) [3, 4, 5, 0] rfl ?_
          exact ihL10 (k + 1) u (by omega) (by omega) (by first | (rw [hu]; exact (lstS_n (fun q => q.1.1 (by rw [← eyq2]; exact cq4))).symm) | (rw [hu]; exact (lstS_n (fun q => q.1.2 (by rw [← eyq2]; exact cq4))).symm) | (rw [hu]; exact (lstS_n (fun q => q.2 (by rw [← eyq3]; exact cq4))).symm) | (rw [eyq3, hu]; exact (lstS_y hb ht eyq2.symm eyq3.symm).symm))
        · refine g_iload C dX11_listen_48 1 rfl ?_
          refine g_aload_n C dX11_listen_50 rfl 2 rfl ?_
          refine g_get C i11 0 rfl rfl 8 (by decide) (List.mem_of_getElem? (i := 1) rfl) rfl rfl dX11_listen_51 ?_
          refine g_alen C 6 rfl dX11_listen_54 ?_
          refine g_icmp_ge C 77 dX11_listen_55 (by decide) (fun cq5 => ?_) (fun cq5 => ?_)
          · refine g_iincN C (lv' := [(3, .int (nI (k + 1))), (5, .int yq3), (4, .int yq2), (0, .ref c0), (1, .int z), (2, .int nn)]) dX11_listen_77 5 rfl (by decide) rfl ?_
            refine g_goto C 10 dX11_listen_80 (by decide) ?_
            refine g_sub (lv' := [(0, .ref c0), (1, .int z), (2, .int nn), (3, .int (nI (k + 1)))]) [3, 4, 5, 0] rfl ?_
            exact ihL10 (k + 1) u (by omega) (by omega) (by first | (rw [hu]; exact (lstS_n (fun q => q.1.1 (by rw [← eyq2]; exact cq5))).symm) | (rw [hu]; exact (lstS_n (fun q => q.1.2 (by rw [← eyq2]; exact cq5))).symm) | (rw [hu]; exact (lstS_n (fun q => q.2 (by rw [← eyq3]; exact cq5))).symm) | (rw [eyq3, hu]; exact (lstS_y hb ht eyq2.symm eyq3.symm).symm))
          · obtain ⟨b, hb, rfl⟩ := inR_of (n := 6) (p := yq2) (by decide) ⟨cq4, cq5⟩
            refine g_iload C dX11_listen_58 0 rfl ?_
            refine g_if_lt C 77 dX11_listen_60 (by decide) (fun cq6 => ?_) (fun cq6 => ?_)
            · refine g_iincN C (lv' := [(3, .int (nI (k + 1))), (5, .int yq3), (4, .int (nI b)), (0, .ref c0), (1, .int z), (2, .int nn)]) dX11_listen_77 5 rfl (by decide) rfl ?_
              refine g_goto C 10 dX11_listen_80 (by decide) ?_
              refine g_sub (lv' := [(0, .ref c0), (1, .int z), (2, .int nn), (3, .int (nI (k + 1)))]) [3, 4, 5, 0] rfl ?_
              exact ihL10 (k + 1) u (by omega) (by omega) (by first | (rw [hu]; exact (lstS_n (fun q => q.1.1 (by rw [← eyq2]; exact cq6))).symm) | (rw [hu]; exact (lstS_n (fun q => q.1.2 (by rw [← eyq2]; exact cq6))).symm) | (rw [hu]; exact (lstS_n (fun q => q.2 (by rw [← eyq3]; exact cq6))).symm) | (rw [eyq3, hu]; exact (lstS_y hb ht eyq2.symm eyq3.symm).symm))
            · obtain ⟨t, ht, rfl⟩ : ∃ j, j < 7 ∧ yq3 = nI j := by rcases sayS_in T.2.2.1 T.2.2.2.1 k z nn with h | h; (exact absurd (eyq3 ▸ h) cq6); (exact eyq3 ▸ h)
              refine g_aload_n C dX11_listen_63 rfl 2 rfl ?_
              refine g_get C i11 0 rfl rfl 8 (by decide) (List.mem_of_getElem? (i := 1) rfl) rfl rfl dX11_listen_64 ?_
              refine g_iload C dX11_listen_67 1 rfl ?_
              refine g_dup2 C dX11_listen_69 rfl rfl ?_
              refine g_iald C 6 rfl (by omega) (by decide) dX11_listen_70 ?_
              refine g_iconst C (nI 1) dX11_listen_71 (by decide) ?_
              refine g_iload C dX11_listen_72 0 rfl ?_
              refine g_ishl1 C dX11_listen_74 (by omega) ?_
              refine g_ior C dX11_listen_75 ?_
              refine g_iast C (ws' := fun fq7 => [(c0, oB 11 [.ref r0, .ref h0, .ref s0, .ref g0, .ref ka, .ref n1, .ref n2, .ref n3, .ref ea, .ref t0, .ref u0, .int (nI nt), .long tr]), (t0, oB 10 [.ref t1, .ref t2, .ref t3, .int (nI T.1), .int (nI T.2.1)]), (t1, iA E 6 T.2.2.1), (t2, iA E 6 T.2.2.2.1), (h0, oB 8 [.ref h1]), (h1, iA E 50 f), (ea, iA E 6 fq7)]) 6 rfl (by omega) (by decide) dX11_listen_76 (fun _ _ => rfl) (fun fq7 efq7 => ?_)
              refine g_iincN C (lv' := [(3, .int (nI (k + 1))), (5, .int (nI t)), (4, .int (nI b)), (0, .ref c0), (1, .int z), (2, .int nn)]) dX11_listen_77 5 rfl (by decide) rfl ?_
              refine g_goto C 10 dX11_listen_80 (by decide) ?_
              refine g_sub (lv' := [(0, .ref c0), (1, .int z), (2, .int nn), (3, .int (nI (k + 1)))]) [3, 4, 5, 0] rfl ?_
              exact ihL10 (k + 1) fq7 (by omega) (by omega) (by first | (rw [hu]; exact (lstS_n (fun q => q.1.1 (by rw [← eyq2]; exact cq6))).symm) | (rw [hu]; exact (lstS_n (fun q => q.1.2 (by rw [← eyq2]; exact cq6))).symm) | (rw [hu]; exact (lstS_n (fun q => q.2 (by rw [← eyq3]; exact cq6))).symm) | (rw [efq7, hu]; exact (lstS_y hb ht eyq2.symm eyq3.symm).symm))
  refine g_sub (lv' := [(0, .ref c0), (1, .int z), (2, .int nn), (3, .int (nI 0))]) [1, 2, 3, 0] rfl ?_
  exact L10 (T.1 + 1 - 0) 0 (filA ee (nI 0) 6) (by omega) (by omega) (by first | rfl | omega | (simp []; done))

set_option maxHeartbeats 4000000 in
set_option maxRecDepth 100000 in
theorem kX11_agreesWithNotes (l : Launch) (E : EX) (c0 r0 h0 s0 g0 ka n1 n2 n3 ea t0 u0 nt : Nat) (tr : Int64) (ee a1 a2 a3 : Nat → Int32) (hnt : nt ≤ 5) (hN : ∀ k, k < nt → inR (a1 k) 6) : M l E yX11_agreesWithNotes wsX11_agreesWithNotes { frames := 0, cells := 0, slots := 0, locals := 0 } 0 0 [.ref c0] [(c0, oB 11 [.ref r0, .ref h0, .ref s0, .ref g0, .ref ka, .ref n1, .ref n2, .ref n3, .ref ea, .ref t0, .ref u0, .int (nI nt), .long tr]), (ea, iA E 6 ee), (n1, iA E 5 a1), (n2, iA E 5 a2), (n3, iA E 5 a3)] (is1 (some (.int (bI (agN nt ee a1 a2 a3)))) [(c0, oB 11 [.ref r0, .ref h0, .ref s0, .ref g0, .ref ka, .ref n1, .ref n2, .ref n3, .ref ea, .ref t0, .ref u0, .int (nI nt), .long tr]), (ea, iA E 6 ee), (n1, iA E 5 a1), (n2, iA E 5 a2), (n3, iA E 5 a3)]) := by
  refine M.ofG (cc := cX11_agreesWithNotes) (maxL := 3) (ret := (some .boolean)) (lv := [(0, .ref c0)]) (own := RX11) (by decide) rfl rfl (Nat.le_of_ble_eq_true rfl) rfl ?_
  intro K C X _
  have i11 : ∀ w ∈ wsX110, w ∈ wsX11_agreesWithNotes := by decide +kernel
  refine g_iconst C (nI 0) dX11_agreesWithNotes_0 (by decide) ?_
  refine g_istore_n C (lv' := [(1, .int (nI 0)), (0, .ref c0)]) dX11_agreesWithNotes_1 rfl (by decide) rfl ?_
  have L2 : ∀ (zz k : Nat) , k + zz = nt + 1 → k ≤ nt → (∀ j, j < k → agP ee a1 a2 a3 j) → G K 0 0 2 [(0, .ref c0), (1, .int (nI k))] [] [(c0, oB 11 [.ref r0, .ref h0, .ref s0, .ref g0, .ref ka, .ref n1, .ref n2, .ref n3, .ref ea, .ref t0, .ref u0, .int (nI nt), .long tr]), (ea, iA E 6 ee), (n1, iA E 5 a1), (n2, iA E 5 a2), (n3, iA E 5 a3)] := by
    intro zz
    induction zz with
    | zero => intro k  hL2 gL2; exfalso; omega
    | succ zz ihL2 =>
      intro k  hL2 gL2 hi
      refine g_iload_n C dX11_agreesWithNotes_2 rfl 1 rfl ?_
      refine g_aload_n C dX11_agreesWithNotes_3 rfl 0 rfl ?_
      refine g_get C i11 0 rfl rfl 11 (by decide) (List.mem_of_getElem? (i := 1) rfl) rfl rfl dX11_agreesWithNotes_4 ?_
      refine g_icmp_geN C 49 dX11_agreesWithNotes_7 (by decide) (by omega) (by omega) (fun cq1 => ?_) (fun cq1 => ?_)
      · have hk : k = nt := by omega
        refine g_iconst C (nI 1) dX11_agreesWithNotes_49 (by decide) ?_
        exact g_zret C X rfl dX11_agreesWithNotes_50 (⟨congrArg (fun z => some (Value.int z)) (bI_t (hk ▸ hi)).symm, rfl⟩)
      · refine g_aload_n C dX11_agreesWithNotes_10 rfl 0 rfl ?_
        refine g_get C i11 0 rfl rfl 5 (by decide) (List.mem_of_getElem? (i := 2) rfl) rfl rfl dX11_agreesWithNotes_11 ?_
        refine g_iload_n C dX11_agreesWithNotes_14 rfl 1 rfl ?_
        refine g_iald C 2 rfl (by omega) (by decide) dX11_agreesWithNotes_15 ?_
        refine g_istore_n C (lv' := [(2, .int (a1 k)), (0, .ref c0), (1, .int (nI k))]) dX11_agreesWithNotes_16 rfl (by decide) rfl ?_
        obtain ⟨b, hb6, hb⟩ := inR_of (n := 6) (by decide) (hN k (by omega))
        rw [hb]
        refine g_aload_n C dX11_agreesWithNotes_17 rfl 1 rfl ?_
        refine g_get C i11 0 rfl rfl 8 (by decide) (List.mem_of_getElem? (i := 3) rfl) rfl rfl dX11_agreesWithNotes_18 ?_
        refine g_iload_n C dX11_agreesWithNotes_21 rfl 0 rfl ?_
        refine g_iald C 1 rfl (by omega) (by decide) dX11_agreesWithNotes_22 ?_
        refine g_aload_n C dX11_agreesWithNotes_23 rfl 1 rfl ?_
        refine g_get C i11 0 rfl rfl 6 (by decide) (List.mem_of_getElem? (i := 4) rfl) rfl rfl dX11_agreesWithNotes_24 ?_
        refine g_iload_n C dX11_agreesWithNotes_27 rfl 2 rfl ?_
        refine g_iald C 3 rfl (by omega) (by decide) dX11_agreesWithNotes_28 ?_
        refine g_ishr C dX11_agreesWithNotes_29 ?_
        refine g_iconst C (nI 1) dX11_agreesWithNotes_30 (by decide) ?_
        refine g_iand C dX11_agreesWithNotes_31 ?_
        refine g_aload_n C dX11_agreesWithNotes_32 rfl 1 rfl ?_
        refine g_get C i11 0 rfl rfl 7 (by decide) (List.mem_of_getElem? (i := 5) rfl) rfl rfl dX11_agreesWithNotes_33 ?_
        refine g_iload_n C dX11_agreesWithNotes_36 rfl 2 rfl ?_
        refine g_iald C 4 rfl (by omega) (by decide) dX11_agreesWithNotes_37 ?_
        refine g_icmp_eq C 43 dX11_agreesWithNotes_38 (by decide) (fun cq2 => ?_) (fun cq2 => ?_)
        · refine g_iincN C (lv' := [(1, .int (nI (k + 1))), (2, .int (nI b)), (0, .ref c0)]) dX11_agreesWithNotes_43 2 rfl (by decide) rfl ?_
          refine g_goto C 2 dX11_agreesWithNotes_46 (by decide) ?_
          refine g_sub (lv' := [(0, .ref c0), (1, .int (nI (k + 1)))]) [2, 0] rfl ?_
          exact ihL2 (k + 1)  (by omega) (by omega) (lt_s hi (by rw [agP, hb, nI_clamp (by omega)]; exact cq2))
        · refine g_iconst C (nI 0) dX11_agreesWithNotes_41 (by decide) ?_
          exact g_zret C X rfl dX11_agreesWithNotes_42 (⟨congrArg (fun z => some (Value.int z)) (bI_f (fun q => cq2 (by have q2 := q k cq1; rw [agP, hb, nI_clamp (by omega)] at q2; exact q2))).symm, rfl⟩)
  refine g_sub (lv' := [(0, .ref c0), (1, .int (nI 0))]) [1, 0] rfl ?_
  exact L2 (nt + 1 - 0) 0  (by omega) (by omega) (fun j h => absurd h (Nat.not_lt_zero j))

set_option maxHeartbeats 4000000 in
set_option maxRecDepth 100000 in
theorem kX11_commonDivisor (l : Launch) (E : EX) (a b : Int32)  : M l E yX11_commonDivisor wsX11_commonDivisor { frames := 0, cells := 0, slots := 0, locals := 0 } 0 0 [.int a, .int b] [] (is1 (some (.int (gcS a b))) []) := by
  refine M.ofG (cc := cX11_commonDivisor) (maxL := 6) (ret := (some .int)) (lv := [(0, .int a), (1, .int b)]) (own := RX11) (by decide) rfl rfl (Nat.le_of_ble_eq_true rfl) rfl ?_
  intro K C X _
  refine g_iload_n C dX11_commonDivisor_0 rfl 0 rfl ?_
  refine g_istore_n C (lv' := [(2, .int a), (0, .int a), (1, .int b)]) dX11_commonDivisor_1 rfl (by decide) rfl ?_
  refine g_iload_n C dX11_commonDivisor_2 rfl 2 rfl ?_
  refine g_istore_n C (lv' := [(3, .int b), (2, .int a), (0, .int a), (1, .int b)]) dX11_commonDivisor_3 rfl (by decide) rfl ?_
  refine g_iconst C (nI 0) dX11_commonDivisor_4 (by decide) ?_
  refine g_istore C (lv' := [(4, .int (nI 0)), (3, .int b), (2, .int a), (0, .int a), (1, .int b)]) dX11_commonDivisor_5 (by decide) rfl ?_
  have L7 : ∀ (zz k : Nat) (x : Int32) (y : Int32), k + zz = 100 + 1 → k ≤ 100 → (gcdS (100 - k) x y = gcdS 100 a b) → G K 0 0 7 [(0, .int a), (1, .int b), (2, .int x), (3, .int y), (4, .int (nI k))] [] [] := by
    intro zz
    induction zz with
    | zero => intro k x y hL7 gL7; exfalso; omega
    | succ zz ihL7 =>
      intro k x y hL7 gL7 hg
      refine g_iload C dX11_commonDivisor_7 4 rfl ?_
      refine g_bipush C (nI 100) dX11_commonDivisor_9 (by decide) ?_
      refine g_icmp_geN C 34 dX11_commonDivisor_11 (by decide) (by omega) (by omega) (fun cq1 => ?_) (fun cq1 => ?_)
      · have hr : gcdS 100 a b = x := by rw [← hg, show 100 - k = 0 by omega, gcdS]
        refine g_iload_n C dX11_commonDivisor_34 rfl 2 rfl ?_
        refine g_if_ne C 42 dX11_commonDivisor_35 (by decide) (fun cq2 => ?_) (fun cq2 => ?_)
        · refine g_iload_n C dX11_commonDivisor_42 rfl 2 rfl ?_
          exact g_iret C X dX11_commonDivisor_43 (⟨by unfold gcS; rw [hr]; first | (rw [if_pos cq2]; done) | (rw [if_neg cq2]; done), rfl⟩)
        · refine g_iconst C (nI 1) dX11_commonDivisor_38 (by decide) ?_
          refine g_goto C 43 dX11_commonDivisor_39 (by decide) ?_
          exact g_iret C X dX11_commonDivisor_43 (⟨by unfold gcS; rw [hr]; first | (rw [if_pos cq2]; done) | (rw [if_neg cq2]; done), rfl⟩)
      · refine g_iload_n C dX11_commonDivisor_14 rfl 3 rfl ?_
        refine g_if_eq C 34 dX11_commonDivisor_15 (by decide) (fun cq3 => ?_) (fun cq3 => ?_)
        · have hr : gcdS 100 a b = x := by rw [← hg, show 100 - k = (100 - (k + 1)) + 1 by omega, gcdS, if_pos cq3]
          refine g_iload_n C dX11_commonDivisor_34 rfl 2 rfl ?_
          refine g_if_ne C 42 dX11_commonDivisor_35 (by decide) (fun cq4 => ?_) (fun cq4 => ?_)
          · refine g_iload_n C dX11_commonDivisor_42 rfl 2 rfl ?_
            exact g_iret C X dX11_commonDivisor_43 (⟨by unfold gcS; rw [hr]; first | (rw [if_pos cq4]; done) | (rw [if_neg cq4]; done), rfl⟩)
          · refine g_iconst C (nI 1) dX11_commonDivisor_38 (by decide) ?_
            refine g_goto C 43 dX11_commonDivisor_39 (by decide) ?_
            exact g_iret C X dX11_commonDivisor_43 (⟨by unfold gcS; rw [hr]; first | (rw [if_pos cq4]; done) | (rw [if_neg cq4]; done), rfl⟩)
        · refine g_iload_n C dX11_commonDivisor_18 rfl 2 rfl ?_
          refine g_iload_n C dX11_commonDivisor_19 rfl 3 rfl ?_
          refine g_irem C dX11_commonDivisor_20 (by assumption) ?_
          refine g_istore C (lv' := [(5, .int (x - x / y * y)), (0, .int a), (1, .int b), (2, .int x), (3, .int y), (4, .int (nI k))]) dX11_commonDivisor_21 (by decide) rfl ?_
          refine g_iload_n C dX11_commonDivisor_23 rfl 4 rfl ?_
          refine g_istore_n C (lv' := [(2, .int y), (5, .int (x - x / y * y)), (0, .int a), (1, .int b), (3, .int y), (4, .int (nI k))]) dX11_commonDivisor_24 rfl (by decide) rfl ?_
          refine g_iload C dX11_commonDivisor_25 1 rfl ?_
          refine g_istore_n C (lv' := [(3, .int (x - x / y * y)), (2, .int y), (5, .int (x - x / y * y)), (0, .int a), (1, .int b), (4, .int (nI k))]) dX11_commonDivisor_27 rfl (by decide) rfl ?_
          refine g_iincN C (lv' := [(4, .int (nI (k + 1))), (3, .int (x - x / y * y)), (2, .int y), (5, .int (x - x / y * y)), (0, .int a), (1, .int b)]) dX11_commonDivisor_28 5 rfl (by decide) rfl ?_
          refine g_goto C 7 dX11_commonDivisor_31 (by decide) ?_
          refine g_sub (lv' := [(0, .int a), (1, .int b), (2, .int y), (3, .int (x - x / y * y)), (4, .int (nI (k + 1)))]) [4, 5, 2, 1, 0] rfl ?_
          exact ihL7 (k + 1) y (x - x / y * y) (by omega) (by omega) (by rw [← hg, show 100 - k = (100 - (k + 1)) + 1 by omega, gcdS, if_neg cq3]; rfl)
  refine g_sub (lv' := [(0, .int a), (1, .int b), (2, .int a), (3, .int b), (4, .int (nI 0))]) [3, 4, 2, 1, 0] rfl ?_
  exact L7 (100 + 1 - 0) 0 a b (by omega) (by omega) (rfl)

set_option maxHeartbeats 4000000 in
set_option maxRecDepth 100000 in
theorem kX11_power (l : Launch) (E : EX) (b : Int32) (n : Nat) (hn : n < 2147483648) : M l E yX11_power wsX11_power { frames := 0, cells := 0, slots := 0, locals := 0 } 0 0 [.int b, .int (nI n)] [] (is1 (some (.long (powS b n))) []) := by
  refine M.ofG (cc := cX11_power) (maxL := 5) (ret := (some .long)) (lv := [(0, .int b), (1, .int (nI n))]) (own := RX11) (by decide) rfl rfl (Nat.le_of_ble_eq_true rfl) rfl ?_
  intro K C X _
  refine g_lconst C 1 dX11_power_0 rfl ?_
  refine g_lstore_n C (lv' := [(2, .long 1), (0, .int b), (1, .int (nI n))]) dX11_power_1 rfl (by decide) rfl ?_
  refine g_iconst C (nI 0) dX11_power_2 (by decide) ?_
  refine g_istore C (lv' := [(4, .int (nI 0)), (2, .long 1), (0, .int b), (1, .int (nI n))]) dX11_power_3 (by decide) rfl ?_
  have L5 : ∀ (zz k : Nat) (a : Int64), k + zz = n + 1 → k ≤ n → (a = powS b k) → G K 0 0 5 [(0, .int b), (1, .int (nI n)), (2, .long a), (4, .int (nI k))] [] [] := by
    intro zz
    induction zz with
    | zero => intro k a hL5 gL5; exfalso; omega
    | succ zz ihL5 =>
      intro k a hL5 gL5 ha
      refine g_iload C dX11_power_5 3 rfl ?_
      refine g_iload_n C dX11_power_7 rfl 1 rfl ?_
      refine g_icmp_geN C 22 dX11_power_8 (by decide) (by omega) (by omega) (fun cq1 => ?_) (fun cq1 => ?_)
      · have hk : k = n := by omega
        refine g_lload_n C dX11_power_22 rfl 2 rfl ?_
        exact g_lret C X dX11_power_23 (⟨by rw [ha, hk], rfl⟩)
      · refine g_lload_n C dX11_power_11 rfl 2 rfl ?_
        refine g_iload_n C dX11_power_12 rfl 0 rfl ?_
        refine g_i2l C dX11_power_13 ?_
        refine g_lmul C dX11_power_14 ?_
        refine g_lstore_n C (lv' := [(2, .long (a * b.toInt64)), (0, .int b), (1, .int (nI n)), (4, .int (nI k))]) dX11_power_15 rfl (by decide) rfl ?_
        refine g_iincN C (lv' := [(4, .int (nI (k + 1))), (2, .long (a * b.toInt64)), (0, .int b), (1, .int (nI n))]) dX11_power_16 3 rfl (by decide) rfl ?_
        refine g_goto C 5 dX11_power_19 (by decide) ?_
        refine g_sub (lv' := [(0, .int b), (1, .int (nI n)), (2, .long (a * b.toInt64)), (4, .int (nI (k + 1)))]) [2, 3, 1, 0] rfl ?_
        exact ihL5 (k + 1) (a * b.toInt64) (by omega) (by omega) (by rw [powS, ← ha])
  refine g_sub (lv' := [(0, .int b), (1, .int (nI n)), (2, .long 1), (4, .int (nI 0))]) [2, 3, 1, 0] rfl ?_
  exact L5 (n + 1 - 0) 0 1 (by omega) (by omega) (by first | rfl | omega | (simp []; done))
