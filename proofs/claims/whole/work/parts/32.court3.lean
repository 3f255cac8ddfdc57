/-! PillowCourt: the calls that search -/
def whS (kn f : Nat → Int32) (np q : Nat) : Nat → Nat × Int32
  | 0 => (0, (-9))
  | k + 1 => if thOn f q 7 &&& (knT kn (nI k) np ^^^ (-1)) = 0 then ((whS kn f np q k).1 + 1, fewS (whS kn f np q k).2 (nI k)) else whS kn f np q k
def whoS (T : TS) (f : Nat → Int32) (q what : Int32) : Int32 := if inR q T.2.1 then (if zo what then (if what = 0 then nI (whS T.2.2.1 f T.1 q.toNatClampNeg (2 ^ T.1)).1 else (whS T.2.2.1 f T.1 q.toNatClampNeg (2 ^ T.1)).2) else (-1)) else (-1)
def soS (cl f : Nat → Int32) : Nat → Int32 × Int32
  | 0 => (nI 0, nI 0)
  | k + 1 => if clW cl (nI k) 7 / nI 2 = 0 then (if tiSet f (nI k) 6 ≤ (soS cl f k).2 then soS cl f k else (nI k, tiSet f (nI k) 6)) else soS cl f k
def sooS (cl f : Nat → Int32) (what : Int32) : Int32 := if zo what then (if what = 0 then (soS cl f 128).1 else (soS cl f 128).2) else (-1)
def talS (m : Nat) (f : Nat → Int32) (a b : Int32) : Int32 := if inR a m ∧ inR b m ∧ ¬ a = b then bc (thOn f a.toNatClampNeg 7 ^^^ thOn f b.toNatClampNeg 7) else (-1)
abbrev fitO (T : TS) (p : Int32) : Prop := p = (-1) ∨ inR p T.1
def fitS (T : TS) (f ga mo : Nat → Int32) (p : Int32) : Int32 := if p = (-1) then (wghS T.2.2.1 f T.2.1 T.1 ga mo T.1).2 0 else if inR p T.1 then (pofS (wghS T.2.2.1 f T.2.1 T.1 ga mo T.1).1 (wghS T.2.2.1 f T.2.1 T.1 ga mo T.1).2 T.2.1 (p.toNatClampNeg + 1)).2 else (-1)
def lkM (f : Nat → Int32) : Int32 := thSet f (nI 63) 6 &&& (thSet f (f 48) 6 ^^^ (-1))
def lkS (f : Nat → Int32) : Nat → Int32
  | 0 => (-9)
  | k + 1 => if lkM f &&& (thSet f (nI k) 6 ^^^ (-1)) = 0 then fewS (lkS f k) (nI k) else lkS f k
def nxF (f : Nat → Int32) (k : Nat) : Int32 := bc (thOn f k 7 &&& (thSet f (f 48) 6 ^^^ (-1)))
def nxS (f : Nat → Int32) : Nat → Int32 × Int32
  | 0 => ((-9), (-1))
  | k + 1 => if ¬ tb (f 48) k = 0 then nxS f k else if nxF f k ≤ (nxS f k).2 then nxS f k else (nI k, nxF f k)
theorem soS_1 (cl f : Nat → Int32) : soS cl f 1 = (nI 0, nI 0) := by
  have h0 : ∀ k : Nat, k < 7 → tb (nI 0) k = 0 := by decide +kernel
  have h1 : ∀ q j : Nat, j ≤ 7 → tiOn f q (nI 0) j = nI 0 := by
    intro q j
    induction j with
    | zero => intro _; rfl
    | succ j ih => intro hj; rw [tiOn, if_pos (h0 j (by omega)), ih (by omega)]
  have h2 : ∀ j : Nat, tiSet f (nI 0) j = nI 0 := by
    intro j
    induction j with
    | zero => rfl
    | succ j ih => rw [tiSet, ih, h1 j 7 (Nat.le_refl 7)]; rfl
  show (if clW cl (nI 0) 7 / nI 2 = 0 then (if tiSet f (nI 0) 6 ≤ nI 0 then ((nI 0, nI 0) : Int32 × Int32) else (nI 0, tiSet f (nI 0) 6)) else (nI 0, nI 0)) = (nI 0, nI 0)
  rw [h2 6]
  by_cases h : clW cl (nI 0) 7 / nI 2 = 0
  · rw [if_pos h, if_pos (by decide)]
  · rw [if_neg h]
theorem p2_64 {n : Nat} (h : n ≤ 6) : 2 ^ n ≤ 64 := Nat.pow_le_pow_right (by decide) h

set_option maxHeartbeats 4000000 in
set_option maxRecDepth 100000 in
theorem kX11_whose (l : Launch) (E : EX) (c0 r0 h0 s0 g0 ka n1 n2 n3 ea t0 u0 nt : Nat) (tr : Int64) (t1 t2 t3 : Nat) (T : TS) (h1 : Nat) (f : Nat → Int32) (q what : Int32) (hn : T.1 ≤ 6) (hm : T.2.1 ≤ 6) : M l E yX11_whose wsX11_whose { frames := 2, cells := 0, slots := 0, locals := 45 } 0 0 [.ref c0, .int q, .int what] [(c0, oB 11 [.ref r0, .ref h0, .ref s0, .ref g0, .ref ka, .ref n1, .ref n2, .ref n3, .ref ea, .ref t0, .ref u0, .int (nI nt), .long tr]), (t0, oB 10 [.ref t1, .ref t2, .ref t3, .int (nI T.1), .int (nI T.2.1)]), (t1, iA E 6 T.2.2.1), (h0, oB 8 [.ref h1]), (h1, iA E 50 f)] (is1 (some (.int (whoS T f q what))) [(c0, oB 11 [.ref r0, .ref h0, .ref s0, .ref g0, .ref ka, .ref n1, .ref n2, .ref n3, .ref ea, .ref t0, .ref u0, .int (nI nt), .long tr]), (t0, oB 10 [.ref t1, .ref t2, .ref t3, .int (nI T.1), .int (nI T.2.1)]), (t1, iA E 6 T.2.2.1), (h0, oB 8 [.ref h1]), (h1, iA E 50 f)]) := by
  refine M.ofG (cc := cX11_whose) (maxL := 7) (ret := (some .int)) (lv := [(0, .ref c0), (1, .int q), (2, .int what)]) (own := RX11) (by decide) rfl rfl (Nat.le_of_ble_eq_true rfl) rfl ?_
  intro K C X _
  have i10 : ∀ w ∈ wsX100, w ∈ wsX11_whose := by decide +kernel
  have i11 : ∀ w ∈ wsX110, w ∈ wsX11_whose := by decide +kernel
  refine g_aload_n C dX11_whose_0 rfl 0 rfl ?_
  refine g_get C i11 0 rfl rfl 9 (by decide) (List.mem_of_getElem? (i := 1) rfl) rfl rfl dX11_whose_1 ?_
  refine g_iload_n C dX11_whose_4 rfl 1 rfl ?_
  refine g_callV C (rest := []) (n := 1) (kX10_hasPillow l E t0 t1 t2 t3 T.1 T.2.1 q ) gX11_whose_X10_hasPillow rfl ⟨rfl, rfl⟩ (by decide) (Nat.le_of_ble_eq_true rfl) rfl (by decide +kernel) rfl dX11_whose_5 0 rfl rfl [1] [0, 2, 3, 4] rfl rfl ?_
  refine g_is1 (ws2 := [(c0, oB 11 [.ref r0, .ref h0, .ref s0, .ref g0, .ref ka, .ref n1, .ref n2, .ref n3, .ref ea, .ref t0, .ref u0, .int (nI nt), .long tr]), (t0, oB 10 [.ref t1, .ref t2, .ref t3, .int (nI T.1), .int (nI T.2.1)]), (t1, iA E 6 T.2.2.1), (h0, oB 8 [.ref h1]), (h1, iA E 50 f)]) (st2 := [.int (bI (inR q T.2.1))]) [0, 4, 1, 2, 3] rfl rfl rfl ?_
  refine g_if_eqB C 18 dX11_whose_8 (by decide) (fun cq1 => ?_) (fun cq1 => ?_)
  · refine g_iconst C ((-1)) dX11_whose_18 (by decide) ?_
    exact g_iret C X dX11_whose_19 (⟨by unfold whoS; first | (rw [if_pos cq1, if_neg trivial]; done) | (rw [if_neg cq1]; done), rfl⟩)
  · refine g_iload_n C dX11_whose_11 rfl 2 rfl ?_
    refine g_callS C (rest := []) (n := 1) (kX11_isZeroOrOne l E what ) gX11_whose_X11_isZeroOrOne rfl ⟨rfl, rfl⟩ (by decide) (Nat.le_of_ble_eq_true rfl) rfl (by decide +kernel) rfl dX11_whose_12 [] [0, 1, 2, 3, 4] rfl rfl ?_
    refine g_is1 (ws2 := [(c0, oB 11 [.ref r0, .ref h0, .ref s0, .ref g0, .ref ka, .ref n1, .ref n2, .ref n3, .ref ea, .ref t0, .ref u0, .int (nI nt), .long tr]), (t0, oB 10 [.ref t1, .ref t2, .ref t3, .int (nI T.1), .int (nI T.2.1)]), (t1, iA E 6 T.2.2.1), (h0, oB 8 [.ref h1]), (h1, iA E 50 f)]) (st2 := [.int (bI (zo what))]) [0, 1, 2, 3, 4] rfl rfl rfl ?_
    refine g_if_neB C 20 dX11_whose_15 (by decide) (fun cq2 => ?_) (fun cq2 => ?_)
    · have h64 : 2 ^ T.1 ≤ 64 := p2_64 hn
      obtain ⟨j, hj_j, rfl⟩ := inR_of (n := T.2.1) (by omega) cq1
      have hcl_j : (nI j).toNatClampNeg = j := nI_clamp (by omega)
      refine g_aload_n C dX11_whose_20 rfl 0 rfl ?_
      refine g_get C i11 0 rfl rfl 1 (by decide) (List.mem_of_getElem? (i := 2) rfl) rfl rfl dX11_whose_21 ?_
      refine g_iload_n C dX11_whose_24 rfl 1 rfl ?_
      refine g_callV C (rest := []) (n := 1) (kX8_thingsOn l E h0 h1 f j (by omega)) gX11_whose_X8_thingsOn rfl ⟨rfl, rfl⟩ (by decide) (Nat.le_of_ble_eq_true rfl) rfl (by decide +kernel) rfl dX11_whose_25 0 rfl rfl [3, 4] [0, 1, 2] rfl rfl ?_
      refine g_is1 (ws2 := [(c0, oB 11 [.ref r0, .ref h0, .ref s0, .ref g0, .ref ka, .ref n1, .ref n2, .ref n3, .ref ea, .ref t0, .ref u0, .int (nI nt), .long tr]), (t0, oB 10 [.ref t1, .ref t2, .ref t3, .int (nI T.1), .int (nI T.2.1)]), (t1, iA E 6 T.2.2.1), (h0, oB 8 [.ref h1]), (h1, iA E 50 f)]) (st2 := [.int (thOn f j 7)]) [0, 1, 2, 3, 4] rfl rfl rfl ?_
      refine g_istore_n C (lv' := [(3, .int (thOn f j 7)), (0, .ref c0), (1, .int (nI j)), (2, .int what)]) dX11_whose_28 rfl (by decide) rfl ?_
      refine g_iconst C (nI 0) dX11_whose_29 (by decide) ?_
      refine g_istore C (lv' := [(4, .int (nI 0)), (3, .int (thOn f j 7)), (0, .ref c0), (1, .int (nI j)), (2, .int what)]) dX11_whose_30 (by decide) rfl ?_
      refine g_bipush C ((-9)) dX11_whose_32 (by decide) ?_
      refine g_istore C (lv' := [(5, .int (-9)), (4, .int (nI 0)), (3, .int (thOn f j 7)), (0, .ref c0), (1, .int (nI j)), (2, .int what)]) dX11_whose_34 (by decide) rfl ?_
      refine g_iconst C (nI 0) dX11_whose_36 (by decide) ?_
      refine g_istore C (lv' := [(6, .int (nI 0)), (5, .int (-9)), (4, .int (nI 0)), (3, .int (thOn f j 7)), (0, .ref c0), (1, .int (nI j)), (2, .int what)]) dX11_whose_37 (by decide) rfl ?_
      have L39 : ∀ (zz k : Nat) (d : Nat) (a : Int32), k + zz = (2 ^ T.1) + 1 → k ≤ 2 ^ T.1 → (d = (whS T.2.2.1 f T.1 j k).1) → (a = (whS T.2.2.1 f T.1 j k).2) → (d ≤ k) → G K 0 0 39 [(0, .ref c0), (1, .int (nI j)), (2, .int what), (3, .int (thOn f j 7)), (4, .int (nI d)), (5, .int a), (6, .int (nI k))] [] [(c0, oB 11 [.ref r0, .ref h0, .ref s0, .ref g0, .ref ka, .ref n1, .ref n2, .ref n3, .ref ea, .ref t0, .ref u0, .int (nI nt), .long tr]), (t0, oB 10 [.ref t1, .ref t2, .ref t3, .int (nI T.1), .int (nI T.2.1)]), (t1, iA E 6 T.2.2.1), (h0, oB 8 [.ref h1]), (h1, iA E 50 f)] := by
        intro zz
        induction zz with
        | zero => intro k d a hL39 gL39; exfalso; omega
        | succ zz ihL39 =>
          intro k d a hL39 gL39 hd ha hdk
          refine g_iload C dX11_whose_39 6 rfl ?_
          refine g_iconst C (nI 1) dX11_whose_41 (by decide) ?_
          refine g_aload_n C dX11_whose_42 rfl 0 rfl ?_
          refine g_get C i11 0 rfl rfl 9 (by decide) (List.mem_of_getElem? (i := 1) rfl) rfl rfl dX11_whose_43 ?_
          refine g_get C i10 1 rfl rfl 3 (by decide) (List.mem_of_getElem? (i := 3) rfl) rfl rfl dX11_whose_46 ?_
          refine g_ishl1 C dX11_whose_49 (by omega) ?_
          refine g_icmp_geN C 87 dX11_whose_50 (by decide) (by omega) (by omega) (fun cq3 => ?_) (fun cq3 => ?_)
          · have hk : k = 2 ^ T.1 := by omega
            refine g_iload_n C dX11_whose_87 rfl 2 rfl ?_
            refine g_if_ne C 96 dX11_whose_88 (by decide) (fun cq4 => ?_) (fun cq4 => ?_)
            · refine g_iload C dX11_whose_96 5 rfl ?_
              exact g_iret C X dX11_whose_98 (⟨by unfold whoS; rw [if_pos cq1, if_pos cq2, hcl_j, ← hk, ← hd, ← ha]; first | (rw [if_neg cq4]; done) | (rw [if_pos cq4]; done), rfl⟩)
            · refine g_iload C dX11_whose_91 4 rfl ?_
              refine g_goto C 98 dX11_whose_93 (by decide) ?_
              exact g_iret C X dX11_whose_98 (⟨by unfold whoS; rw [if_pos cq1, if_pos cq2, hcl_j, ← hk, ← hd, ← ha]; first | (rw [if_neg cq4]; done) | (rw [if_pos cq4]; done), rfl⟩)
          · refine g_iload_n C dX11_whose_53 rfl 3 rfl ?_
            refine g_aload_n C dX11_whose_54 rfl 0 rfl ?_
            refine g_get C i11 0 rfl rfl 9 (by decide) (List.mem_of_getElem? (i := 1) rfl) rfl rfl dX11_whose_55 ?_
            refine g_iload C dX11_whose_58 6 rfl ?_
            refine g_callV C (rest := [.int (thOn f j 7)]) (n := 1) (kX10_knownTo l E t0 t1 t2 t3 T.1 T.2.1 T.2.2.1 (nI k) (by omega)) gX11_whose_X10_knownTo rfl ⟨rfl, rfl⟩ (by decide) (Nat.le_of_ble_eq_true rfl) rfl (by decide +kernel) rfl dX11_whose_60 0 rfl rfl [1, 2] [0, 3, 4] rfl rfl ?_
            refine g_is1 (ws2 := [(c0, oB 11 [.ref r0, .ref h0, .ref s0, .ref g0, .ref ka, .ref n1, .ref n2, .ref n3, .ref ea, .ref t0, .ref u0, .int (nI nt), .long tr]), (t0, oB 10 [.ref t1, .ref t2, .ref t3, .int (nI T.1), .int (nI T.2.1)]), (t1, iA E 6 T.2.2.1), (h0, oB 8 [.ref h1]), (h1, iA E 50 f)]) (st2 := [.int (knT T.2.2.1 (nI k) T.1), .int (thOn f j 7)]) [0, 3, 4, 1, 2] rfl rfl rfl ?_
            refine g_iconst C ((-1)) dX11_whose_63 (by decide) ?_
            refine g_ixor C dX11_whose_64 ?_
            refine g_iand C dX11_whose_65 ?_
            refine g_if_ne C 81 dX11_whose_66 (by decide) (fun cq5 => ?_) (fun cq5 => ?_)
            · refine g_iincN C (lv' := [(6, .int (nI (k + 1))), (0, .ref c0), (1, .int (nI j)), (2, .int what), (3, .int (thOn f j 7)), (4, .int (nI d)), (5, .int a)]) dX11_whose_81 6 rfl (by decide) rfl ?_
              refine g_goto C 39 dX11_whose_84 (by decide) ?_
              refine g_sub (lv' := [(0, .ref c0), (1, .int (nI j)), (2, .int what), (3, .int (thOn f j 7)), (4, .int (nI d)), (5, .int a), (6, .int (nI (k + 1)))]) [1, 2, 3, 4, 5, 6, 0] rfl ?_
              exact ihL39 (k + 1) d a (by omega) (by omega) (by rw [whS]; first | (rw [if_pos cq5, ← hd]; done) | (rw [if_neg cq5, ← hd]; done)) (by rw [whS]; first | (rw [if_pos cq5, ← ha]; done) | (rw [if_neg cq5, ← ha]; done)) (by first | omega | (simp [cq1, cq2, h64, hcl_j, hd, ha, hdk, cq3, cq5]; done))
            · refine g_iincN C (lv' := [(4, .int (nI (d + 1))), (0, .ref c0), (1, .int (nI j)), (2, .int what), (3, .int (thOn f j 7)), (5, .int a), (6, .int (nI k))]) dX11_whose_69 4 rfl (by decide) rfl ?_
              refine g_iload C dX11_whose_72 5 rfl ?_
              refine g_iload C dX11_whose_74 6 rfl ?_
              refine g_callS C (rest := []) (n := 2) (kX11_fewerOf l E a (nI k) ) gX11_whose_X11_fewerOf rfl ⟨rfl, rfl⟩ (by decide) (Nat.le_of_ble_eq_true rfl) rfl (by decide +kernel) rfl dX11_whose_76 [] [0, 1, 2, 3, 4] rfl rfl ?_
              refine g_is1 (ws2 := [(c0, oB 11 [.ref r0, .ref h0, .ref s0, .ref g0, .ref ka, .ref n1, .ref n2, .ref n3, .ref ea, .ref t0, .ref u0, .int (nI nt), .long tr]), (t0, oB 10 [.ref t1, .ref t2, .ref t3, .int (nI T.1), .int (nI T.2.1)]), (t1, iA E 6 T.2.2.1), (h0, oB 8 [.ref h1]), (h1, iA E 50 f)]) (st2 := [.int (fewS a (nI k))]) [0, 1, 2, 3, 4] rfl rfl rfl ?_
              refine g_istore C (lv' := [(5, .int (fewS a (nI k))), (4, .int (nI (d + 1))), (0, .ref c0), (1, .int (nI j)), (2, .int what), (3, .int (thOn f j 7)), (6, .int (nI k))]) dX11_whose_79 (by decide) rfl ?_
              refine g_iincN C (lv' := [(6, .int (nI (k + 1))), (5, .int (fewS a (nI k))), (4, .int (nI (d + 1))), (0, .ref c0), (1, .int (nI j)), (2, .int what), (3, .int (thOn f j 7))]) dX11_whose_81 6 rfl (by decide) rfl ?_
              refine g_goto C 39 dX11_whose_84 (by decide) ?_
              refine g_sub (lv' := [(0, .ref c0), (1, .int (nI j)), (2, .int what), (3, .int (thOn f j 7)), (4, .int (nI (d + 1))), (5, .int (fewS a (nI k))), (6, .int (nI (k + 1)))]) [3, 4, 5, 6, 2, 1, 0] rfl ?_
              exact ihL39 (k + 1) (d + 1) (fewS a (nI k)) (by omega) (by omega) (by rw [whS]; first | (rw [if_pos cq5, ← hd]; done) | (rw [if_neg cq5, ← hd]; done)) (by rw [whS]; first | (rw [if_pos cq5, ← ha]; done) | (rw [if_neg cq5, ← ha]; done)) (by first | omega | (simp [cq1, cq2, h64, hcl_j, hd, ha, hdk, cq3, cq5]; done))
      have h1p : 1 ≤ 2 ^ T.1 := Nat.one_le_two_pow
      refine g_sub (lv' := [(0, .ref c0), (1, .int (nI j)), (2, .int what), (3, .int (thOn f j 7)), (4, .int (nI 0)), (5, .int (-9)), (6, .int (nI 0))]) [4, 5, 6, 3, 2, 1, 0] rfl ?_
      exact L39 ((2 ^ T.1) + 1 - 0) 0 0 (-9) (by omega) (by omega) (by first | rfl | omega | (simp []; done)) (by first | rfl | omega | (simp []; done)) (by first | rfl | omega | (simp []; done))
    · refine g_iconst C ((-1)) dX11_whose_18 (by decide) ?_
      exact g_iret C X dX11_whose_19 (⟨by unfold whoS; first | (rw [if_pos cq1, if_neg cq2]; done) | (rw [if_neg cq1]; done), rfl⟩)

set_option maxHeartbeats 4000000 in
set_option maxRecDepth 100000 in
theorem kX11_so (l : Launch) (E : EX) (c0 r0 h0 s0 g0 ka n1 n2 n3 ea t0 u0 nt : Nat) (tr : Int64) (t1 t2 t3 : Nat) (T : TS) (h1 : Nat) (f : Nat → Int32) (what : Int32)  : M l E yX11_so wsX11_so { frames := 3, cells := 0, slots := 0, locals := 69 } 0 0 [.ref c0, .int what] [(c0, oB 11 [.ref r0, .ref h0, .ref s0, .ref g0, .ref ka, .ref n1, .ref n2, .ref n3, .ref ea, .ref t0, .ref u0, .int (nI nt), .long tr]), (t0, oB 10 [.ref t1, .ref t2, .ref t3, .int (nI T.1), .int (nI T.2.1)]), (t3, iA E 7 T.2.2.2.2), (h0, oB 8 [.ref h1]), (h1, iA E 50 f)] (is1 (some (.int (sooS T.2.2.2.2 f what))) [(c0, oB 11 [.ref r0, .ref h0, .ref s0, .ref g0, .ref ka, .ref n1, .ref n2, .ref n3, .ref ea, .ref t0, .ref u0, .int (nI nt), .long tr]), (t0, oB 10 [.ref t1, .ref t2, .ref t3, .int (nI T.1), .int (nI T.2.1)]), (t3, iA E 7 T.2.2.2.2), (h0, oB 8 [.ref h1]), (h1, iA E 50 f)]) := by
  refine M.ofG (cc := cX11_so) (maxL := 6) (ret := (some .int)) (lv := [(0, .ref c0), (1, .int what)]) (own := RX11) (by decide) rfl rfl (Nat.le_of_ble_eq_true rfl) rfl ?_
  intro K C X _
  have i11 : ∀ w ∈ wsX110, w ∈ wsX11_so := by decide +kernel
  refine g_iload_n C dX11_so_0 rfl 1 rfl ?_
  refine g_callS C (rest := []) (n := 1) (kX11_isZeroOrOne l E what ) gX11_so_X11_isZeroOrOne rfl ⟨rfl, rfl⟩ (by decide) (Nat.le_of_ble_eq_true rfl) rfl (by decide +kernel) rfl dX11_so_1 [] [0, 1, 2, 3, 4] rfl rfl ?_
  refine g_is1 (ws2 := [(c0, oB 11 [.ref r0, .ref h0, .ref s0, .ref g0, .ref ka, .ref n1, .ref n2, .ref n3, .ref ea, .ref t0, .ref u0, .int (nI nt), .long tr]), (t0, oB 10 [.ref t1, .ref t2, .ref t3, .int (nI T.1), .int (nI T.2.1)]), (t3, iA E 7 T.2.2.2.2), (h0, oB 8 [.ref h1]), (h1, iA E 50 f)]) (st2 := [.int (bI (zo what))]) [0, 1, 2, 3, 4] rfl rfl rfl ?_
  refine g_if_neB C 9 dX11_so_4 (by decide) (fun cq1 => ?_) (fun cq1 => ?_)
  · refine g_iconst C (nI 0) dX11_so_9 (by decide) ?_
    refine g_istore_n C (lv' := [(2, .int (nI 0)), (0, .ref c0), (1, .int what)]) dX11_so_10 rfl (by decide) rfl ?_
    refine g_iconst C (nI 0) dX11_so_11 (by decide) ?_
    refine g_istore_n C (lv' := [(3, .int (nI 0)), (2, .int (nI 0)), (0, .ref c0), (1, .int what)]) dX11_so_12 rfl (by decide) rfl ?_
    refine g_iconst C (nI 1) dX11_so_13 (by decide) ?_
    refine g_istore C (lv' := [(4, .int (nI 1)), (3, .int (nI 0)), (2, .int (nI 0)), (0, .ref c0), (1, .int what)]) dX11_so_14 (by decide) rfl ?_
    have L16 : ∀ (zz k : Nat) (a : Int32) (b : Int32), k + zz = 128 + 1 → k ≤ 128 → (a = (soS T.2.2.2.2 f k).1) → (b = (soS T.2.2.2.2 f k).2) → G K 0 0 16 [(0, .ref c0), (1, .int what), (2, .int a), (3, .int b), (4, .int (nI k))] [] [(c0, oB 11 [.ref r0, .ref h0, .ref s0, .ref g0, .ref ka, .ref n1, .ref n2, .ref n3, .ref ea, .ref t0, .ref u0, .int (nI nt), .long tr]), (t0, oB 10 [.ref t1, .ref t2, .ref t3, .int (nI T.1), .int (nI T.2.1)]), (t3, iA E 7 T.2.2.2.2), (h0, oB 8 [.ref h1]), (h1, iA E 50 f)] := by
      intro zz
      induction zz with
      | zero => intro k a b hL16 gL16; exfalso; omega
      | succ zz ihL16 =>
        intro k a b hL16 gL16 ha hb
        refine g_iload C dX11_so_16 4 rfl ?_
        refine g_sipush C (nI 128) dX11_so_18 (by decide) ?_
        refine g_icmp_geN C 65 dX11_so_21 (by decide) (by omega) (by omega) (fun cq2 => ?_) (fun cq2 => ?_)
        · have hk : k = 128 := by omega
          refine g_iload_n C dX11_so_65 rfl 1 rfl ?_
          refine g_if_ne C 73 dX11_so_66 (by decide) (fun cq3 => ?_) (fun cq3 => ?_)
          · refine g_iload_n C dX11_so_73 rfl 3 rfl ?_
            exact g_iret C X dX11_so_74 (⟨by unfold sooS; rw [if_pos cq1, ← hk, ← ha, ← hb]; first | (rw [if_neg cq3]; done) | (rw [if_pos cq3]; done), rfl⟩)
          · refine g_iload_n C dX11_so_69 rfl 2 rfl ?_
            refine g_goto C 74 dX11_so_70 (by decide) ?_
            exact g_iret C X dX11_so_74 (⟨by unfold sooS; rw [if_pos cq1, ← hk, ← ha, ← hb]; first | (rw [if_neg cq3]; done) | (rw [if_pos cq3]; done), rfl⟩)
        · refine g_aload_n C dX11_so_24 rfl 0 rfl ?_
          refine g_get C i11 0 rfl rfl 9 (by decide) (List.mem_of_getElem? (i := 1) rfl) rfl rfl dX11_so_25 ?_
          refine g_iload C dX11_so_28 4 rfl ?_
          refine g_callV C (rest := []) (n := 1) (kX10_clashesWithin l E t0 t1 t2 t3 T.1 T.2.1 T.2.2.2.2 (nI k) ) gX11_so_X10_clashesWithin rfl ⟨rfl, rfl⟩ (by decide) (Nat.le_of_ble_eq_true rfl) rfl (by decide +kernel) rfl dX11_so_30 0 rfl rfl [1, 2] [0, 3, 4] rfl rfl ?_
          refine g_is1 (ws2 := [(c0, oB 11 [.ref r0, .ref h0, .ref s0, .ref g0, .ref ka, .ref n1, .ref n2, .ref n3, .ref ea, .ref t0, .ref u0, .int (nI nt), .long tr]), (t0, oB 10 [.ref t1, .ref t2, .ref t3, .int (nI T.1), .int (nI T.2.1)]), (t3, iA E 7 T.2.2.2.2), (h0, oB 8 [.ref h1]), (h1, iA E 50 f)]) (st2 := [.int (clW T.2.2.2.2 (nI k) 7 / nI 2)]) [0, 3, 4, 1, 2] rfl rfl rfl ?_
          refine g_if_ne C 59 dX11_so_33 (by decide) (fun cq4 => ?_) (fun cq4 => ?_)
          · refine g_iincN C (lv' := [(4, .int (nI (k + 1))), (0, .ref c0), (1, .int what), (2, .int a), (3, .int b)]) dX11_so_59 4 rfl (by decide) rfl ?_
            refine g_goto C 16 dX11_so_62 (by decide) ?_
            refine g_sub (lv' := [(0, .ref c0), (1, .int what), (2, .int a), (3, .int b), (4, .int (nI (k + 1)))]) [1, 2, 3, 4, 0] rfl ?_
            exact ihL16 (k + 1) a b (by omega) (by omega) (by rw [soS]; first | (rw [if_neg cq4, ← ha]; done) | (rw [if_pos cq2, ← hb, if_pos cq4, ← ha]; done) | (rw [if_pos cq2, ← hb, if_neg cq4]; done)) (by rw [soS]; first | (rw [if_neg cq4, ← hb]; done) | (rw [if_pos cq2, ← hb, if_pos cq4, ← hb]; done) | (rw [if_pos cq2, ← hb, if_neg cq4]; done))
          · refine g_aload_n C dX11_so_36 rfl 0 rfl ?_
            refine g_get C i11 0 rfl rfl 1 (by decide) (List.mem_of_getElem? (i := 2) rfl) rfl rfl dX11_so_37 ?_
            refine g_iload C dX11_so_40 4 rfl ?_
            refine g_callV C (rest := []) (n := 1) (kX8_timesOfSet l E h0 h1 f (nI k) ) gX11_so_X8_timesOfSet rfl ⟨rfl, rfl⟩ (by decide) (Nat.le_of_ble_eq_true rfl) rfl (by decide +kernel) rfl dX11_so_42 0 rfl rfl [3, 4] [0, 1, 2] rfl rfl ?_
            refine g_is1 (ws2 := [(c0, oB 11 [.ref r0, .ref h0, .ref s0, .ref g0, .ref ka, .ref n1, .ref n2, .ref n3, .ref ea, .ref t0, .ref u0, .int (nI nt), .long tr]), (t0, oB 10 [.ref t1, .ref t2, .ref t3, .int (nI T.1), .int (nI T.2.1)]), (t3, iA E 7 T.2.2.2.2), (h0, oB 8 [.ref h1]), (h1, iA E 50 f)]) (st2 := [.int (tiSet f (nI k) 6)]) [0, 1, 2, 3, 4] rfl rfl rfl ?_
            refine g_istore C (lv' := [(5, .int (tiSet f (nI k) 6)), (0, .ref c0), (1, .int what), (2, .int a), (3, .int b), (4, .int (nI k))]) dX11_so_45 (by decide) rfl ?_
            refine g_iload C dX11_so_47 0 rfl ?_
            refine g_iload_n C dX11_so_49 rfl 4 rfl ?_
            refine g_icmp_le C 59 dX11_so_50 (by decide) (fun cq5 => ?_) (fun cq5 => ?_)
            · refine g_iincN C (lv' := [(4, .int (nI (k + 1))), (5, .int (tiSet f (nI k) 6)), (0, .ref c0), (1, .int what), (2, .int a), (3, .int b)]) dX11_so_59 5 rfl (by decide) rfl ?_
              refine g_goto C 16 dX11_so_62 (by decide) ?_
              refine g_sub (lv' := [(0, .ref c0), (1, .int what), (2, .int a), (3, .int b), (4, .int (nI (k + 1)))]) [2, 3, 4, 5, 0] rfl ?_
              exact ihL16 (k + 1) a b (by omega) (by omega) (by rw [soS]; first | (rw [if_neg cq5, ← ha]; done) | (rw [if_pos cq4, ← hb, if_pos cq5, ← ha]; done) | (rw [if_pos cq4, ← hb, if_neg cq5]; done)) (by rw [soS]; first | (rw [if_neg cq5, ← hb]; done) | (rw [if_pos cq4, ← hb, if_pos cq5, ← hb]; done) | (rw [if_pos cq4, ← hb, if_neg cq5]; done))
            · refine g_iload C dX11_so_53 0 rfl ?_
              refine g_istore_n C (lv' := [(3, .int (tiSet f (nI k) 6)), (5, .int (tiSet f (nI k) 6)), (0, .ref c0), (1, .int what), (2, .int a), (4, .int (nI k))]) dX11_so_55 rfl (by decide) rfl ?_
              refine g_iload C dX11_so_56 5 rfl ?_
              refine g_istore_n C (lv' := [(2, .int (nI k)), (3, .int (tiSet f (nI k) 6)), (5, .int (tiSet f (nI k) 6)), (0, .ref c0), (1, .int what), (4, .int (nI k))]) dX11_so_58 rfl (by decide) rfl ?_
              refine g_iincN C (lv' := [(4, .int (nI (k + 1))), (2, .int (nI k)), (3, .int (tiSet f (nI k) 6)), (5, .int (tiSet f (nI k) 6)), (0, .ref c0), (1, .int what)]) dX11_so_59 5 rfl (by decide) rfl ?_
              refine g_goto C 16 dX11_so_62 (by decide) ?_
              refine g_sub (lv' := [(0, .ref c0), (1, .int what), (2, .int (nI k)), (3, .int (tiSet f (nI k) 6)), (4, .int (nI (k + 1)))]) [4, 5, 1, 2, 0] rfl ?_
              exact ihL16 (k + 1) (nI k) (tiSet f (nI k) 6) (by omega) (by omega) (by rw [soS]; first | (rw [if_neg cq5, ← ha]; done) | (rw [if_pos cq4, ← hb, if_pos cq5, ← ha]; done) | (rw [if_pos cq4, ← hb, if_neg cq5]; done)) (by rw [soS]; first | (rw [if_neg cq5, ← hb]; done) | (rw [if_pos cq4, ← hb, if_pos cq5, ← hb]; done) | (rw [if_pos cq4, ← hb, if_neg cq5]; done))
    refine g_sub (lv' := [(0, .ref c0), (1, .int what), (2, .int (nI 0)), (3, .int (nI 0)), (4, .int (nI 1))]) [3, 4, 2, 1, 0] rfl ?_
    exact L16 (128 + 1 - 1) 1 (nI 0) (nI 0) (by omega) (by omega) (by rw [soS_1]) (by rw [soS_1])
  · refine g_iconst C ((-1)) dX11_so_7 (by decide) ?_
    exact g_iret C X dX11_so_8 (⟨by unfold sooS; rw [if_neg cq1], rfl⟩)

set_option maxHeartbeats 4000000 in
set_option maxRecDepth 100000 in
theorem kX11_tally (l : Launch) (E : EX) (c0 r0 h0 s0 g0 ka n1 n2 n3 ea t0 u0 nt : Nat) (tr : Int64) (t1 t2 t3 : Nat) (T : TS) (h1 : Nat) (f : Nat → Int32) (a b : Int32) (hm : T.2.1 ≤ 6) : M l E yX11_tally wsX11_tally { frames := 2, cells := 0, slots := 0, locals := 45 } 0 0 [.ref c0, .int a, .int b] [(c0, oB 11 [.ref r0, .ref h0, .ref s0, .ref g0, .ref ka, .ref n1, .ref n2, .ref n3, .ref ea, .ref t0, .ref u0, .int (nI nt), .long tr]), (t0, oB 10 [.ref t1, .ref t2, .ref t3, .int (nI T.1), .int (nI T.2.1)]), (h0, oB 8 [.ref h1]), (h1, iA E 50 f)] (is1 (some (.int (talS T.2.1 f a b))) [(c0, oB 11 [.ref r0, .ref h0, .ref s0, .ref g0, .ref ka, .ref n1, .ref n2, .ref n3, .ref ea, .ref t0, .ref u0, .int (nI nt), .long tr]), (t0, oB 10 [.ref t1, .ref t2, .ref t3, .int (nI T.1), .int (nI T.2.1)]), (h0, oB 8 [.ref h1]), (h1, iA E 50 f)]) := by
  refine M.ofG (cc := cX11_tally) (maxL := 3) (ret := (some .int)) (lv := [(0, .ref c0), (1, .int a), (2, .int b)]) (own := RX11) (by decide) rfl rfl (Nat.le_of_ble_eq_true rfl) rfl ?_
  intro K C X _
  have i11 : ∀ w ∈ wsX110, w ∈ wsX11_tally := by decide +kernel
  refine g_aload_n C dX11_tally_0 rfl 0 rfl ?_
  refine g_iload_n C dX11_tally_1 rfl 1 rfl ?_
  refine g_iload_n C dX11_tally_2 rfl 2 rfl ?_
  refine g_callV C (rest := []) (n := 2) (kX11_areTwoPillows l E c0 r0 h0 s0 g0 ka n1 n2 n3 ea t0 u0 nt tr t1 t2 t3 T a b ) gX11_tally_X11_areTwoPillows rfl ⟨rfl, rfl⟩ (by decide) (Nat.le_of_ble_eq_true rfl) rfl (by decide +kernel) rfl dX11_tally_3 0 rfl rfl [0, 1] [2, 3] rfl rfl ?_
  refine g_is1 (ws2 := [(c0, oB 11 [.ref r0, .ref h0, .ref s0, .ref g0, .ref ka, .ref n1, .ref n2, .ref n3, .ref ea, .ref t0, .ref u0, .int (nI nt), .long tr]), (t0, oB 10 [.ref t1, .ref t2, .ref t3, .int (nI T.1), .int (nI T.2.1)]), (h0, oB 8 [.ref h1]), (h1, iA E 50 f)]) (st2 := [.int (bI (inR a T.2.1 ∧ inR b T.2.1 ∧ ¬ a = b))]) [2, 3, 0, 1] rfl rfl rfl ?_
  refine g_if_eqB C 32 dX11_tally_6 (by decide) (fun cq1 => ?_) (fun cq1 => ?_)
  · refine g_iconst C ((-1)) dX11_tally_32 (by decide) ?_
    exact g_iret C X dX11_tally_33 (⟨by unfold talS; first | (rw [if_pos cq1, hcl_i, hcl_j]; done) | (rw [if_neg cq1]; done), rfl⟩)
  · obtain ⟨i, hj_i, rfl⟩ := inR_of (n := T.2.1) (by omega) cq1.1
    have hcl_i : (nI i).toNatClampNeg = i := nI_clamp (by omega)
    obtain ⟨j, hj_j, rfl⟩ := inR_of (n := T.2.1) (by omega) cq1.2.1
    have hcl_j : (nI j).toNatClampNeg = j := nI_clamp (by omega)
    refine g_aload_n C dX11_tally_9 rfl 0 rfl ?_
    refine g_get C i11 0 rfl rfl 1 (by decide) (List.mem_of_getElem? (i := 1) rfl) rfl rfl dX11_tally_10 ?_
    refine g_iload_n C dX11_tally_13 rfl 1 rfl ?_
    refine g_callV C (rest := []) (n := 1) (kX8_thingsOn l E h0 h1 f i (by omega)) gX11_tally_X8_thingsOn rfl ⟨rfl, rfl⟩ (by decide) (Nat.le_of_ble_eq_true rfl) rfl (by decide +kernel) rfl dX11_tally_14 0 rfl rfl [2, 3] [0, 1] rfl rfl ?_
    refine g_is1 (ws2 := [(c0, oB 11 [.ref r0, .ref h0, .ref s0, .ref g0, .ref ka, .ref n1, .ref n2, .ref n3, .ref ea, .ref t0, .ref u0, .int (nI nt), .long tr]), (t0, oB 10 [.ref t1, .ref t2, .ref t3, .int (nI T.1), .int (nI T.2.1)]), (h0, oB 8 [.ref h1]), (h1, iA E 50 f)]) (st2 := [.int (thOn f i 7)]) [0, 1, 2, 3] rfl rfl rfl ?_
    refine g_aload_n C dX11_tally_17 rfl 0 rfl ?_
    refine g_get C i11 0 rfl rfl 1 (by decide) (List.mem_of_getElem? (i := 1) rfl) rfl rfl dX11_tally_18 ?_
    refine g_iload_n C dX11_tally_21 rfl 2 rfl ?_
    refine g_callV C (rest := [.int (thOn f i 7)]) (n := 1) (kX8_thingsOn l E h0 h1 f j (by omega)) gX11_tally_X8_thingsOn rfl ⟨rfl, rfl⟩ (by decide) (Nat.le_of_ble_eq_true rfl) rfl (by decide +kernel) rfl dX11_tally_22 0 rfl rfl [2, 3] [0, 1] rfl rfl ?_
    refine g_is1 (ws2 := [(c0, oB 11 [.ref r0, .ref h0, .ref s0, .ref g0, .ref ka, .ref n1, .ref n2, .ref n3, .ref ea, .ref t0, .ref u0, .int (nI nt), .long tr]), (t0, oB 10 [.ref t1, .ref t2, .ref t3, .int (nI T.1), .int (nI T.2.1)]), (h0, oB 8 [.ref h1]), (h1, iA E 50 f)]) (st2 := [.int (thOn f j 7), .int (thOn f i 7)]) [0, 1, 2, 3] rfl rfl rfl ?_
    refine g_ixor C dX11_tally_25 ?_
    refine g_callS C (rest := []) (n := 1) (kJ6_bitCount_0f7a4 l E ((thOn f i 7) ^^^ (thOn f j 7)) ) gX11_tally_J6_bitCount_0f7a4 rfl ⟨rfl, rfl⟩ (by decide) (Nat.le_of_ble_eq_true rfl) rfl (by decide +kernel) rfl dX11_tally_26 [] [0, 1, 2, 3] rfl rfl ?_
    refine g_is1 (ws2 := [(c0, oB 11 [.ref r0, .ref h0, .ref s0, .ref g0, .ref ka, .ref n1, .ref n2, .ref n3, .ref ea, .ref t0, .ref u0, .int (nI nt), .long tr]), (t0, oB 10 [.ref t1, .ref t2, .ref t3, .int (nI T.1), .int (nI T.2.1)]), (h0, oB 8 [.ref h1]), (h1, iA E 50 f)]) (st2 := [.int (bc ((thOn f i 7) ^^^ (thOn f j 7)))]) [0, 1, 2, 3] rfl rfl rfl ?_
    refine g_goto C 33 dX11_tally_29 (by decide) ?_
    exact g_iret C X dX11_tally_33 (⟨by unfold talS; first | (rw [if_pos cq1, hcl_i, hcl_j]; done) | (rw [if_neg cq1]; done), rfl⟩)

set_option maxHeartbeats 4000000 in
set_option maxRecDepth 100000 in
theorem kX11_fit (l : Launch) (E : EX) (c0 r0 h0 s0 g0 ka n1 n2 n3 ea t0 u0 nt : Nat) (tr : Int64) (t1 t2 t3 : Nat) (T : TS) (h1 : Nat) (f : Nat → Int32) (g1 g2 : Nat) (ga mo : Nat → Int32) (p : Int32) (hn : T.1 ≤ 6) (hm : T.2.1 ≤ 6) : M l E yX11_fit wsX11_fit { frames := 3, cells := 0, slots := 0, locals := 74 } 0 0 [.ref c0, .int p] [(c0, oB 11 [.ref r0, .ref h0, .ref s0, .ref g0, .ref ka, .ref n1, .ref n2, .ref n3, .ref ea, .ref t0, .ref u0, .int (nI nt), .long tr]), (t0, oB 10 [.ref t1, .ref t2, .ref t3, .int (nI T.1), .int (nI T.2.1)]), (t1, iA E 6 T.2.2.1), (h0, oB 8 [.ref h1]), (h1, iA E 50 f), (g0, oB 0 [.ref g1, .ref g2]), (g1, iA E 36 ga), (g2, iA E 448 mo)] (is1 (some (.int (fitS T f ga mo p))) [(c0, oB 11 [.ref r0, .ref h0, .ref s0, .ref g0, .ref ka, .ref n1, .ref n2, .ref n3, .ref ea, .ref t0, .ref u0, .int (nI nt), .long tr]), (t0, oB 10 [.ref t1, .ref t2, .ref t3, .int (nI T.1), .int (nI T.2.1)]), (t1, iA E 6 T.2.2.1), (h0, oB 8 [.ref h1]), (h1, iA E 50 f), (g0, oB 0 [.ref g1, .ref g2]), (g1, iA E 36 (if fitO T p then (wghS T.2.2.1 f T.2.1 T.1 ga mo T.1).1 else ga)), (g2, iA E 448 (if fitO T p then (wghS T.2.2.1 f T.2.1 T.1 ga mo T.1).2 else mo))]) := by
  refine M.ofG (cc := cX11_fit) (maxL := 2) (ret := (some .int)) (lv := [(0, .ref c0), (1, .int p)]) (own := RX11) (by decide) rfl rfl (Nat.le_of_ble_eq_true rfl) rfl ?_
  intro K C X _
  have i11 : ∀ w ∈ wsX110, w ∈ wsX11_fit := by decide +kernel
  refine g_iload_n C dX11_fit_0 rfl 1 rfl ?_
  refine g_iconst C ((-1)) dX11_fit_1 (by decide) ?_
  refine g_icmp_eq C 18 dX11_fit_2 (by decide) (fun cq1 => ?_) (fun cq1 => ?_)
  · have hy : fitO T p := Or.inl cq1
    refine g_aload_n C dX11_fit_18 rfl 0 rfl ?_
    refine g_get C i11 0 rfl rfl 3 (by decide) (List.mem_of_getElem? (i := 2) rfl) rfl rfl dX11_fit_19 ?_
    refine g_aload_n C dX11_fit_22 rfl 0 rfl ?_
    refine g_get C i11 0 rfl rfl 9 (by decide) (List.mem_of_getElem? (i := 1) rfl) rfl rfl dX11_fit_23 ?_
    refine g_aload_n C dX11_fit_26 rfl 0 rfl ?_
    refine g_get C i11 0 rfl rfl 1 (by decide) (List.mem_of_getElem? (i := 3) rfl) rfl rfl dX11_fit_27 ?_
    refine g_callV C (rest := []) (n := 2) (kX0_weigh l E g0 g1 g2 ga mo t0 t1 t2 t3 T.1 T.2.1 T.2.2.1 h0 h1 f (by omega) (by omega)) gX11_fit_X0_weigh rfl ⟨rfl, rfl⟩ (by decide) (Nat.le_of_ble_eq_true rfl) rfl (by decide +kernel) rfl dX11_fit_30 0 rfl rfl [5, 6, 7, 1, 2, 3, 4] [0] rfl rfl ?_
    refine g_is1 (ws2 := [(c0, oB 11 [.ref r0, .ref h0, .ref s0, .ref g0, .ref ka, .ref n1, .ref n2, .ref n3, .ref ea, .ref t0, .ref u0, .int (nI nt), .long tr]), (t0, oB 10 [.ref t1, .ref t2, .ref t3, .int (nI T.1), .int (nI T.2.1)]), (t1, iA E 6 T.2.2.1), (h0, oB 8 [.ref h1]), (h1, iA E 50 f), (g0, oB 0 [.ref g1, .ref g2]), (g1, iA E 36 ((wghS T.2.2.1 f T.2.1 T.1 ga mo T.1).1)), (g2, iA E 448 ((wghS T.2.2.1 f T.2.1 T.1 ga mo T.1).2))]) (st2 := []) [0, 4, 5, 6, 7, 1, 2, 3] rfl rfl rfl ?_
    refine g_iload_n C dX11_fit_33 rfl 1 rfl ?_
    refine g_iconst C ((-1)) dX11_fit_34 (by decide) ?_
    refine g_icmp_ne C 48 dX11_fit_35 (by decide) (fun cq2 => ?_) (fun cq2 => ?_)
    · exact absurd cq1 cq2
    · refine g_aload_n C dX11_fit_38 rfl 0 rfl ?_
      refine g_get C i11 0 rfl rfl 3 (by decide) (List.mem_of_getElem? (i := 2) rfl) rfl rfl dX11_fit_39 ?_
      refine g_callV C (rest := []) (n := 0) (kX0_explained l E g0 g1 g2 ((wghS T.2.2.1 f T.2.1 T.1 ga mo T.1).1) ((wghS T.2.2.1 f T.2.1 T.1 ga mo T.1).2) ) gX11_fit_X0_explained rfl ⟨rfl, rfl⟩ (by decide) (Nat.le_of_ble_eq_true rfl) rfl (by decide +kernel) rfl dX11_fit_42 0 rfl rfl [5, 6, 7] [0, 1, 2, 3, 4] rfl rfl ?_
      refine g_is1 (ws2 := [(c0, oB 11 [.ref r0, .ref h0, .ref s0, .ref g0, .ref ka, .ref n1, .ref n2, .ref n3, .ref ea, .ref t0, .ref u0, .int (nI nt), .long tr]), (t0, oB 10 [.ref t1, .ref t2, .ref t3, .int (nI T.1), .int (nI T.2.1)]), (t1, iA E 6 T.2.2.1), (h0, oB 8 [.ref h1]), (h1, iA E 50 f), (g0, oB 0 [.ref g1, .ref g2]), (g1, iA E 36 ((wghS T.2.2.1 f T.2.1 T.1 ga mo T.1).1)), (g2, iA E 448 ((wghS T.2.2.1 f T.2.1 T.1 ga mo T.1).2))]) (st2 := [.int (((wghS T.2.2.1 f T.2.1 T.1 ga mo T.1).2) 0)]) [0, 1, 2, 3, 4, 5, 6, 7] rfl rfl rfl ?_
      refine g_goto C 60 dX11_fit_45 (by decide) ?_
      exact g_iret C X dX11_fit_60 (⟨by unfold fitS; first | (rw [if_pos cq1]; done) | (rw [if_neg cq1, if_pos cq2, hcl_j]; done), by rw [if_pos hy, if_pos hy]⟩)
  · refine g_aload_n C dX11_fit_5 rfl 0 rfl ?_
    refine g_get C i11 0 rfl rfl 9 (by decide) (List.mem_of_getElem? (i := 1) rfl) rfl rfl dX11_fit_6 ?_
    refine g_iload_n C dX11_fit_9 rfl 1 rfl ?_
    refine g_callV C (rest := []) (n := 1) (kX10_hasPerson l E t0 t1 t2 t3 T.1 T.2.1 p ) gX11_fit_X10_hasPerson rfl ⟨rfl, rfl⟩ (by decide) (Nat.le_of_ble_eq_true rfl) rfl (by decide +kernel) rfl dX11_fit_10 0 rfl rfl [1] [0, 2, 3, 4, 5, 6, 7] rfl rfl ?_
    refine g_is1 (ws2 := [(c0, oB 11 [.ref r0, .ref h0, .ref s0, .ref g0, .ref ka, .ref n1, .ref n2, .ref n3, .ref ea, .ref t0, .ref u0, .int (nI nt), .long tr]), (t0, oB 10 [.ref t1, .ref t2, .ref t3, .int (nI T.1), .int (nI T.2.1)]), (t1, iA E 6 T.2.2.1), (h0, oB 8 [.ref h1]), (h1, iA E 50 f), (g0, oB 0 [.ref g1, .ref g2]), (g1, iA E 36 ga), (g2, iA E 448 mo)]) (st2 := [.int (bI (inR p T.1))]) [0, 7, 1, 2, 3, 4, 5, 6] rfl rfl rfl ?_
    refine g_if_neB C 18 dX11_fit_13 (by decide) (fun cq3 => ?_) (fun cq3 => ?_)
    · have hy : fitO T p := Or.inr cq3
      obtain ⟨j, hj_j, rfl⟩ := inR_of (n := T.1) (by omega) cq3
      have hcl_j : (nI j).toNatClampNeg = j := nI_clamp (by omega)
      refine g_aload_n C dX11_fit_18 rfl 0 rfl ?_
      refine g_get C i11 0 rfl rfl 3 (by decide) (List.mem_of_getElem? (i := 2) rfl) rfl rfl dX11_fit_19 ?_
      refine g_aload_n C dX11_fit_22 rfl 0 rfl ?_
      refine g_get C i11 0 rfl rfl 9 (by decide) (List.mem_of_getElem? (i := 1) rfl) rfl rfl dX11_fit_23 ?_
      refine g_aload_n C dX11_fit_26 rfl 0 rfl ?_
      refine g_get C i11 0 rfl rfl 1 (by decide) (List.mem_of_getElem? (i := 3) rfl) rfl rfl dX11_fit_27 ?_
      refine g_callV C (rest := []) (n := 2) (kX0_weigh l E g0 g1 g2 ga mo t0 t1 t2 t3 T.1 T.2.1 T.2.2.1 h0 h1 f (by omega) (by omega)) gX11_fit_X0_weigh rfl ⟨rfl, rfl⟩ (by decide) (Nat.le_of_ble_eq_true rfl) rfl (by decide +kernel) rfl dX11_fit_30 0 rfl rfl [5, 6, 7, 1, 2, 3, 4] [0] rfl rfl ?_
      refine g_is1 (ws2 := [(c0, oB 11 [.ref r0, .ref h0, .ref s0, .ref g0, .ref ka, .ref n1, .ref n2, .ref n3, .ref ea, .ref t0, .ref u0, .int (nI nt), .long tr]), (t0, oB 10 [.ref t1, .ref t2, .ref t3, .int (nI T.1), .int (nI T.2.1)]), (t1, iA E 6 T.2.2.1), (h0, oB 8 [.ref h1]), (h1, iA E 50 f), (g0, oB 0 [.ref g1, .ref g2]), (g1, iA E 36 ((wghS T.2.2.1 f T.2.1 T.1 ga mo T.1).1)), (g2, iA E 448 ((wghS T.2.2.1 f T.2.1 T.1 ga mo T.1).2))]) (st2 := []) [0, 4, 5, 6, 7, 1, 2, 3] rfl rfl rfl ?_
      refine g_iload_n C dX11_fit_33 rfl 1 rfl ?_
      refine g_iconst C ((-1)) dX11_fit_34 (by decide) ?_
      refine g_icmp_ne C 48 dX11_fit_35 (by decide) (fun cq4 => ?_) (fun cq4 => ?_)
      · refine g_aload_n C dX11_fit_48 rfl 0 rfl ?_
        refine g_get C i11 0 rfl rfl 3 (by decide) (List.mem_of_getElem? (i := 2) rfl) rfl rfl dX11_fit_49 ?_
        refine g_aload_n C dX11_fit_52 rfl 0 rfl ?_
        refine g_get C i11 0 rfl rfl 9 (by decide) (List.mem_of_getElem? (i := 1) rfl) rfl rfl dX11_fit_53 ?_
        refine g_iload_n C dX11_fit_56 rfl 1 rfl ?_
        refine g_callV C (rest := []) (n := 2) (kX0_pillowOf l E g0 g1 g2 ((wghS T.2.2.1 f T.2.1 T.1 ga mo T.1).1) ((wghS T.2.2.1 f T.2.1 T.1 ga mo T.1).2) t0 t1 t2 t3 T.1 T.2.1 j (by omega) (by omega)) gX11_fit_X0_pillowOf rfl ⟨rfl, rfl⟩ (by decide) (Nat.le_of_ble_eq_true rfl) rfl (by decide +kernel) rfl dX11_fit_57 0 rfl rfl [5, 6, 7, 1] [0, 2, 3, 4] rfl rfl ?_
        refine g_is1 (ws2 := [(c0, oB 11 [.ref r0, .ref h0, .ref s0, .ref g0, .ref ka, .ref n1, .ref n2, .ref n3, .ref ea, .ref t0, .ref u0, .int (nI nt), .long tr]), (t0, oB 10 [.ref t1, .ref t2, .ref t3, .int (nI T.1), .int (nI T.2.1)]), (t1, iA E 6 T.2.2.1), (h0, oB 8 [.ref h1]), (h1, iA E 50 f), (g0, oB 0 [.ref g1, .ref g2]), (g1, iA E 36 ((wghS T.2.2.1 f T.2.1 T.1 ga mo T.1).1)), (g2, iA E 448 ((wghS T.2.2.1 f T.2.1 T.1 ga mo T.1).2))]) (st2 := [.int ((pofS ((wghS T.2.2.1 f T.2.1 T.1 ga mo T.1).1) ((wghS T.2.2.1 f T.2.1 T.1 ga mo T.1).2) T.2.1 (j + 1)).2)]) [0, 7, 1, 2, 3, 4, 5, 6] rfl rfl rfl ?_
        exact g_iret C X dX11_fit_60 (⟨by unfold fitS; first | (rw [if_pos cq1]; done) | (rw [if_neg cq1, if_pos cq3, hcl_j]; done), by rw [if_pos hy, if_pos hy]⟩)
      · exact absurd cq4 cq1
    · refine g_iconst C ((-1)) dX11_fit_16 (by decide) ?_
      exact g_iret C X dX11_fit_17 (⟨by unfold fitS; rw [if_neg cq1, if_neg cq3], by rw [if_neg (fun w => w.elim cq1 cq3), if_neg (fun w => w.elim cq1 cq3)]⟩)

set_option maxHeartbeats 4000000 in
set_option maxRecDepth 100000 in
theorem kX11_looks (l : Launch) (E : EX) (c0 r0 h0 s0 g0 ka n1 n2 n3 ea t0 u0 nt : Nat) (tr : Int64) (t1 t2 t3 : Nat) (T : TS) (h1 : Nat) (f : Nat → Int32) (hm : T.2.1 ≤ 6) : M l E yX11_looks wsX11_looks { frames := 4, cells := 0, slots := 0, locals := 88 } 0 0 [.ref c0] [(c0, oB 11 [.ref r0, .ref h0, .ref s0, .ref g0, .ref ka, .ref n1, .ref n2, .ref n3, .ref ea, .ref t0, .ref u0, .int (nI nt), .long tr]), (t0, oB 10 [.ref t1, .ref t2, .ref t3, .int (nI T.1), .int (nI T.2.1)]), (h0, oB 8 [.ref h1]), (h1, iA E 50 f)] (is1 (some (.int (lkS f (2 ^ T.2.1)))) [(c0, oB 11 [.ref r0, .ref h0, .ref s0, .ref g0, .ref ka, .ref n1, .ref n2, .ref n3, .ref ea, .ref t0, .ref u0, .int (nI nt), .long tr]), (t0, oB 10 [.ref t1, .ref t2, .ref t3, .int (nI T.1), .int (nI T.2.1)]), (h0, oB 8 [.ref h1]), (h1, iA E 50 f)]) := by
  refine M.ofG (cc := cX11_looks) (maxL := 4) (ret := (some .int)) (lv := [(0, .ref c0)]) (own := RX11) (by decide) rfl rfl (Nat.le_of_ble_eq_true rfl) rfl ?_
  intro K C X _
  have i10 : ∀ w ∈ wsX100, w ∈ wsX11_looks := by decide +kernel
  have i11 : ∀ w ∈ wsX110, w ∈ wsX11_looks := by decide +kernel
  refine g_aload_n C dX11_looks_0 rfl 0 rfl ?_
  refine g_get C i11 0 rfl rfl 1 (by decide) (List.mem_of_getElem? (i := 1) rfl) rfl rfl dX11_looks_1 ?_
  refine g_callV C (rest := []) (n := 0) (kX8_allThings l E h0 h1 f ) gX11_looks_X8_allThings rfl ⟨rfl, rfl⟩ (by decide) (Nat.le_of_ble_eq_true rfl) rfl (by decide +kernel) rfl dX11_looks_4 0 rfl rfl [2, 3] [0, 1] rfl rfl ?_
  refine g_is1 (ws2 := [(c0, oB 11 [.ref r0, .ref h0, .ref s0, .ref g0, .ref ka, .ref n1, .ref n2, .ref n3, .ref ea, .ref t0, .ref u0, .int (nI nt), .long tr]), (t0, oB 10 [.ref t1, .ref t2, .ref t3, .int (nI T.1), .int (nI T.2.1)]), (h0, oB 8 [.ref h1]), (h1, iA E 50 f)]) (st2 := [.int (thSet f (nI 63) 6)]) [0, 1, 2, 3] rfl rfl rfl ?_
  refine g_aload_n C dX11_looks_7 rfl 0 rfl ?_
  refine g_get C i11 0 rfl rfl 1 (by decide) (List.mem_of_getElem? (i := 1) rfl) rfl rfl dX11_looks_8 ?_
  refine g_callV C (rest := [.int (thSet f (nI 63) 6)]) (n := 0) (kX8_knownThings l E h0 h1 f ) gX11_looks_X8_knownThings rfl ⟨rfl, rfl⟩ (by decide) (Nat.le_of_ble_eq_true rfl) rfl (by decide +kernel) rfl dX11_looks_11 0 rfl rfl [2, 3] [0, 1] rfl rfl ?_
  refine g_is1 (ws2 := [(c0, oB 11 [.ref r0, .ref h0, .ref s0, .ref g0, .ref ka, .ref n1, .ref n2, .ref n3, .ref ea, .ref t0, .ref u0, .int (nI nt), .long tr]), (t0, oB 10 [.ref t1, .ref t2, .ref t3, .int (nI T.1), .int (nI T.2.1)]), (h0, oB 8 [.ref h1]), (h1, iA E 50 f)]) (st2 := [.int (thSet f (f 48) 6), .int (thSet f (nI 63) 6)]) [0, 1, 2, 3] rfl rfl rfl ?_
  refine g_iconst C ((-1)) dX11_looks_14 (by decide) ?_
  refine g_ixor C dX11_looks_15 ?_
  refine g_iand C dX11_looks_16 ?_
  refine g_istore_n C (lv' := [(1, .int ((thSet f (nI 63) 6) &&& ((thSet f (f 48) 6) ^^^ (-1)))), (0, .ref c0)]) dX11_looks_17 rfl (by decide) rfl ?_
  refine g_bipush C ((-9)) dX11_looks_18 (by decide) ?_
  refine g_istore_n C (lv' := [(2, .int (-9)), (1, .int ((thSet f (nI 63) 6) &&& ((thSet f (f 48) 6) ^^^ (-1)))), (0, .ref c0)]) dX11_looks_20 rfl (by decide) rfl ?_
  refine g_iconst C (nI 0) dX11_looks_21 (by decide) ?_
  refine g_istore_n C (lv' := [(3, .int (nI 0)), (2, .int (-9)), (1, .int ((thSet f (nI 63) 6) &&& ((thSet f (f 48) 6) ^^^ (-1)))), (0, .ref c0)]) dX11_looks_22 rfl (by decide) rfl ?_
  have L23 : ∀ (zz k : Nat) (a : Int32), k + zz = (2 ^ T.2.1) + 1 → k ≤ 2 ^ T.2.1 → (a = lkS f k) → G K 0 0 23 [(0, .ref c0), (1, .int ((thSet f (nI 63) 6) &&& ((thSet f (f 48) 6) ^^^ (-1)))), (2, .int a), (3, .int (nI k))] [] [(c0, oB 11 [.ref r0, .ref h0, .ref s0, .ref g0, .ref ka, .ref n1, .ref n2, .ref n3, .ref ea, .ref t0, .ref u0, .int (nI nt), .long tr]), (t0, oB 10 [.ref t1, .ref t2, .ref t3, .int (nI T.1), .int (nI T.2.1)]), (h0, oB 8 [.ref h1]), (h1, iA E 50 f)] := by
    intro zz
    induction zz with
    | zero => intro k a hL23 gL23; exfalso; omega
    | succ zz ihL23 =>
      intro k a hL23 gL23 ha
      have h64 : 2 ^ T.2.1 ≤ 64 := p2_64 hm
      refine g_iload_n C dX11_looks_23 rfl 3 rfl ?_
      refine g_iconst C (nI 1) dX11_looks_24 (by decide) ?_
      refine g_aload_n C dX11_looks_25 rfl 0 rfl ?_
      refine g_get C i11 0 rfl rfl 9 (by decide) (List.mem_of_getElem? (i := 2) rfl) rfl rfl dX11_looks_26 ?_
      refine g_get C i10 1 rfl rfl 4 (by decide) (List.mem_of_getElem? (i := 3) rfl) rfl rfl dX11_looks_29 ?_
      refine g_ishl1 C dX11_looks_32 (by omega) ?_
      refine g_icmp_geN C 63 dX11_looks_33 (by decide) (by omega) (by omega) (fun cq1 => ?_) (fun cq1 => ?_)
      · have hk : k = 2 ^ T.2.1 := by omega
        refine g_iload_n C dX11_looks_63 rfl 2 rfl ?_
        exact g_iret C X dX11_looks_64 (⟨by rw [ha, hk], rfl⟩)
      · refine g_iload_n C dX11_looks_36 rfl 1 rfl ?_
        refine g_aload_n C dX11_looks_37 rfl 0 rfl ?_
        refine g_get C i11 0 rfl rfl 1 (by decide) (List.mem_of_getElem? (i := 1) rfl) rfl rfl dX11_looks_38 ?_
        refine g_iload_n C dX11_looks_41 rfl 3 rfl ?_
        refine g_callV C (rest := [.int ((thSet f (nI 63) 6) &&& ((thSet f (f 48) 6) ^^^ (-1)))]) (n := 1) (kX8_thingsOnSet l E h0 h1 f (nI k) ) gX11_looks_X8_thingsOnSet rfl ⟨rfl, rfl⟩ (by decide) (Nat.le_of_ble_eq_true rfl) rfl (by decide +kernel) rfl dX11_looks_42 0 rfl rfl [2, 3] [0, 1] rfl rfl ?_
        refine g_is1 (ws2 := [(c0, oB 11 [.ref r0, .ref h0, .ref s0, .ref g0, .ref ka, .ref n1, .ref n2, .ref n3, .ref ea, .ref t0, .ref u0, .int (nI nt), .long tr]), (t0, oB 10 [.ref t1, .ref t2, .ref t3, .int (nI T.1), .int (nI T.2.1)]), (h0, oB 8 [.ref h1]), (h1, iA E 50 f)]) (st2 := [.int (thSet f (nI k) 6), .int ((thSet f (nI 63) 6) &&& ((thSet f (f 48) 6) ^^^ (-1)))]) [0, 1, 2, 3] rfl rfl rfl ?_
        refine g_iconst C ((-1)) dX11_looks_45 (by decide) ?_
        refine g_ixor C dX11_looks_46 ?_
        refine g_iand C dX11_looks_47 ?_
        refine g_if_ne C 57 dX11_looks_48 (by decide) (fun cq2 => ?_) (fun cq2 => ?_)
        · refine g_iincN C (lv' := [(3, .int (nI (k + 1))), (0, .ref c0), (1, .int ((thSet f (nI 63) 6) &&& ((thSet f (f 48) 6) ^^^ (-1)))), (2, .int a)]) dX11_looks_57 3 rfl (by decide) rfl ?_
          refine g_goto C 23 dX11_looks_60 (by decide) ?_
          refine g_sub (lv' := [(0, .ref c0), (1, .int ((thSet f (nI 63) 6) &&& ((thSet f (f 48) 6) ^^^ (-1)))), (2, .int a), (3, .int (nI (k + 1)))]) [1, 2, 3, 0] rfl ?_
          exact ihL23 (k + 1) a (by omega) (by omega) (by rw [lkS, lkM]; first | (rw [if_pos cq2, ← ha]; done) | (rw [if_neg cq2, ← ha]; done))
        · refine g_iload_n C dX11_looks_51 rfl 2 rfl ?_
          refine g_iload_n C dX11_looks_52 rfl 3 rfl ?_
          refine g_callS C (rest := []) (n := 2) (kX11_fewerOf l E a (nI k) ) gX11_looks_X11_fewerOf rfl ⟨rfl, rfl⟩ (by decide) (Nat.le_of_ble_eq_true rfl) rfl (by decide +kernel) rfl dX11_looks_53 [] [0, 1, 2, 3] rfl rfl ?_
          refine g_is1 (ws2 := [(c0, oB 11 [.ref r0, .ref h0, .ref s0, .ref g0, .ref ka, .ref n1, .ref n2, .ref n3, .ref ea, .ref t0, .ref u0, .int (nI nt), .long tr]), (t0, oB 10 [.ref t1, .ref t2, .ref t3, .int (nI T.1), .int (nI T.2.1)]), (h0, oB 8 [.ref h1]), (h1, iA E 50 f)]) (st2 := [.int (fewS a (nI k))]) [0, 1, 2, 3] rfl rfl rfl ?_
          refine g_istore_n C (lv' := [(2, .int (fewS a (nI k))), (0, .ref c0), (1, .int ((thSet f (nI 63) 6) &&& ((thSet f (f 48) 6) ^^^ (-1)))), (3, .int (nI k))]) dX11_looks_56 rfl (by decide) rfl ?_
          refine g_iincN C (lv' := [(3, .int (nI (k + 1))), (2, .int (fewS a (nI k))), (0, .ref c0), (1, .int ((thSet f (nI 63) 6) &&& ((thSet f (f 48) 6) ^^^ (-1))))]) dX11_looks_57 3 rfl (by decide) rfl ?_
          refine g_goto C 23 dX11_looks_60 (by decide) ?_
          refine g_sub (lv' := [(0, .ref c0), (1, .int ((thSet f (nI 63) 6) &&& ((thSet f (f 48) 6) ^^^ (-1)))), (2, .int (fewS a (nI k))), (3, .int (nI (k + 1)))]) [2, 3, 1, 0] rfl ?_
          exact ihL23 (k + 1) (fewS a (nI k)) (by omega) (by omega) (by rw [lkS, lkM]; first | (rw [if_pos cq2, ← ha]; done) | (rw [if_neg cq2, ← ha]; done))
  have h1p : 1 ≤ 2 ^ T.2.1 := Nat.one_le_two_pow
  refine g_sub (lv' := [(0, .ref c0), (1, .int ((thSet f (nI 63) 6) &&& ((thSet f (f 48) 6) ^^^ (-1)))), (2, .int (-9)), (3, .int (nI 0))]) [3, 2, 1, 0] rfl ?_
  exact L23 ((2 ^ T.2.1) + 1 - 0) 0 (-9) (by omega) (by omega) (by first | rfl | omega | (simp []; done))

set_option maxHeartbeats 4000000 in
set_option maxRecDepth 100000 in
theorem kX11_next (l : Launch) (E : EX) (c0 r0 h0 s0 g0 ka n1 n2 n3 ea t0 u0 nt : Nat) (tr : Int64) (t1 t2 t3 : Nat) (T : TS) (h1 : Nat) (f : Nat → Int32) (hm : T.2.1 ≤ 6) : M l E yX11_next wsX11_next { frames := 4, cells := 0, slots := 0, locals := 88 } 0 0 [.ref c0] [(c0, oB 11 [.ref r0, .ref h0, .ref s0, .ref g0, .ref ka, .ref n1, .ref n2, .ref n3, .ref ea, .ref t0, .ref u0, .int (nI nt), .long tr]), (t0, oB 10 [.ref t1, .ref t2, .ref t3, .int (nI T.1), .int (nI T.2.1)]), (h0, oB 8 [.ref h1]), (h1, iA E 50 f)] (is1 (some (.int ((nxS f T.2.1).1))) [(c0, oB 11 [.ref r0, .ref h0, .ref s0, .ref g0, .ref ka, .ref n1, .ref n2, .ref n3, .ref ea, .ref t0, .ref u0, .int (nI nt), .long tr]), (t0, oB 10 [.ref t1, .ref t2, .ref t3, .int (nI T.1), .int (nI T.2.1)]), (h0, oB 8 [.ref h1]), (h1, iA E 50 f)]) := by
  refine M.ofG (cc := cX11_next) (maxL := 6) (ret := (some .int)) (lv := [(0, .ref c0)]) (own := RX11) (by decide) rfl rfl (Nat.le_of_ble_eq_true rfl) rfl ?_
  intro K C X _
  have i10 : ∀ w ∈ wsX100, w ∈ wsX11_next := by decide +kernel
  have i11 : ∀ w ∈ wsX110, w ∈ wsX11_next := by decide +kernel
  refine g_aload_n C dX11_next_0 rfl 0 rfl ?_
  refine g_get C i11 0 rfl rfl 1 (by decide) (List.mem_of_getElem? (i := 1) rfl) rfl rfl dX11_next_1 ?_
  refine g_callV C (rest := []) (n := 0) (kX8_knownThings l E h0 h1 f ) gX11_next_X8_knownThings rfl ⟨rfl, rfl⟩ (by decide) (Nat.le_of_ble_eq_true rfl) rfl (by decide +kernel) rfl dX11_next_4 0 rfl rfl [2, 3] [0, 1] rfl rfl ?_
  refine g_is1 (ws2 := [(c0, oB 11 [.ref r0, .ref h0, .ref s0, .ref g0, .ref ka, .ref n1, .ref n2, .ref n3, .ref ea, .ref t0, .ref u0, .int (nI nt), .long tr]), (t0, oB 10 [.ref t1, .ref t2, .ref t3, .int (nI T.1), .int (nI T.2.1)]), (h0, oB 8 [.ref h1]), (h1, iA E 50 f)]) (st2 := [.int (thSet f (f 48) 6)]) [0, 1, 2, 3] rfl rfl rfl ?_
  refine g_istore_n C (lv' := [(1, .int (thSet f (f 48) 6)), (0, .ref c0)]) dX11_next_7 rfl (by decide) rfl ?_
  refine g_bipush C ((-9)) dX11_next_8 (by decide) ?_
  refine g_istore_n C (lv' := [(2, .int (-9)), (1, .int (thSet f (f 48) 6)), (0, .ref c0)]) dX11_next_10 rfl (by decide) rfl ?_
  refine g_iconst C ((-1)) dX11_next_11 (by decide) ?_
  refine g_istore_n C (lv' := [(3, .int (-1)), (2, .int (-9)), (1, .int (thSet f (f 48) 6)), (0, .ref c0)]) dX11_next_12 rfl (by decide) rfl ?_
  refine g_iconst C (nI 0) dX11_next_13 (by decide) ?_
  refine g_istore C (lv' := [(4, .int (nI 0)), (3, .int (-1)), (2, .int (-9)), (1, .int (thSet f (f 48) 6)), (0, .ref c0)]) dX11_next_14 (by decide) rfl ?_
  have L16 : ∀ (zz k : Nat) (a : Int32) (b : Int32), k + zz = T.2.1 + 1 → k ≤ T.2.1 → (a = (nxS f k).1) → (b = (nxS f k).2) → G K 0 0 16 [(0, .ref c0), (1, .int (thSet f (f 48) 6)), (2, .int a), (3, .int b), (4, .int (nI k))] [] [(c0, oB 11 [.ref r0, .ref h0, .ref s0, .ref g0, .ref ka, .ref n1, .ref n2, .ref n3, .ref ea, .ref t0, .ref u0, .int (nI nt), .long tr]), (t0, oB 10 [.ref t1, .ref t2, .ref t3, .int (nI T.1), .int (nI T.2.1)]), (h0, oB 8 [.ref h1]), (h1, iA E 50 f)] := by
    intro zz
    induction zz with
    | zero => intro k a b hL16 gL16; exfalso; omega
    | succ zz ihL16 =>
      intro k a b hL16 gL16 ha hb
      refine g_iload C dX11_next_16 4 rfl ?_
      refine g_aload_n C dX11_next_18 rfl 0 rfl ?_
      refine g_get C i11 0 rfl rfl 9 (by decide) (List.mem_of_getElem? (i := 2) rfl) rfl rfl dX11_next_19 ?_
      refine g_get C i10 1 rfl rfl 4 (by decide) (List.mem_of_getElem? (i := 3) rfl) rfl rfl dX11_next_22 ?_
      refine g_icmp_geN C 76 dX11_next_25 (by decide) (by omega) (by omega) (fun cq1 => ?_) (fun cq1 => ?_)
      · have hk : k = T.2.1 := by omega
        refine g_iload_n C dX11_next_76 rfl 2 rfl ?_
        exact g_iret C X dX11_next_77 (⟨by rw [ha, hk], rfl⟩)
      · refine g_aload_n C dX11_next_28 rfl 0 rfl ?_
        refine g_get C i11 0 rfl rfl 1 (by decide) (List.mem_of_getElem? (i := 1) rfl) rfl rfl dX11_next_29 ?_
        refine g_iload C dX11_next_32 4 rfl ?_
        refine g_callV C (rest := []) (n := 1) (kX8_thingsOn l E h0 h1 f k (by omega)) gX11_next_X8_thingsOn rfl ⟨rfl, rfl⟩ (by decide) (Nat.le_of_ble_eq_true rfl) rfl (by decide +kernel) rfl dX11_next_34 0 rfl rfl [2, 3] [0, 1] rfl rfl ?_
        refine g_is1 (ws2 := [(c0, oB 11 [.ref r0, .ref h0, .ref s0, .ref g0, .ref ka, .ref n1, .ref n2, .ref n3, .ref ea, .ref t0, .ref u0, .int (nI nt), .long tr]), (t0, oB 10 [.ref t1, .ref t2, .ref t3, .int (nI T.1), .int (nI T.2.1)]), (h0, oB 8 [.ref h1]), (h1, iA E 50 f)]) (st2 := [.int (thOn f k 7)]) [0, 1, 2, 3] rfl rfl rfl ?_
        refine g_iload_n C dX11_next_37 rfl 1 rfl ?_
        refine g_iconst C ((-1)) dX11_next_38 (by decide) ?_
        refine g_ixor C dX11_next_39 ?_
        refine g_iand C dX11_next_40 ?_
        refine g_callS C (rest := []) (n := 1) (kJ6_bitCount_0f7a4 l E ((thOn f k 7) &&& ((thSet f (f 48) 6) ^^^ (-1))) ) gX11_next_J6_bitCount_0f7a4 rfl ⟨rfl, rfl⟩ (by decide) (Nat.le_of_ble_eq_true rfl) rfl (by decide +kernel) rfl dX11_next_41 [] [0, 1, 2, 3] rfl rfl ?_
        refine g_is1 (ws2 := [(c0, oB 11 [.ref r0, .ref h0, .ref s0, .ref g0, .ref ka, .ref n1, .ref n2, .ref n3, .ref ea, .ref t0, .ref u0, .int (nI nt), .long tr]), (t0, oB 10 [.ref t1, .ref t2, .ref t3, .int (nI T.1), .int (nI T.2.1)]), (h0, oB 8 [.ref h1]), (h1, iA E 50 f)]) (st2 := [.int (bc ((thOn f k 7) &&& ((thSet f (f 48) 6) ^^^ (-1))))]) [0, 1, 2, 3] rfl rfl rfl ?_
        refine g_istore C (lv' := [(5, .int (bc ((thOn f k 7) &&& ((thSet f (f 48) 6) ^^^ (-1))))), (0, .ref c0), (1, .int (thSet f (f 48) 6)), (2, .int a), (3, .int b), (4, .int (nI k))]) dX11_next_44 (by decide) rfl ?_
        refine g_aload_n C dX11_next_46 rfl 1 rfl ?_
        refine g_get C i11 0 rfl rfl 1 (by decide) (List.mem_of_getElem? (i := 1) rfl) rfl rfl dX11_next_47 ?_
        refine g_iload C dX11_next_50 5 rfl ?_
        refine g_callV C (rest := []) (n := 1) (kX8_isExamined l E h0 h1 f k ) gX11_next_X8_isExamined rfl ⟨rfl, rfl⟩ (by decide) (Nat.le_of_ble_eq_true rfl) rfl (by decide +kernel) rfl dX11_next_52 0 rfl rfl [2, 3] [0, 1] rfl rfl ?_
        refine g_is1 (ws2 := [(c0, oB 11 [.ref r0, .ref h0, .ref s0, .ref g0, .ref ka, .ref n1, .ref n2, .ref n3, .ref ea, .ref t0, .ref u0, .int (nI nt), .long tr]), (t0, oB 10 [.ref t1, .ref t2, .ref t3, .int (nI T.1), .int (nI T.2.1)]), (h0, oB 8 [.ref h1]), (h1, iA E 50 f)]) (st2 := [.int (bI (¬ tb (f 48) k = 0))]) [0, 1, 2, 3] rfl rfl rfl ?_
        refine g_if_neB C 70 dX11_next_55 (by decide) (fun cq2 => ?_) (fun cq2 => ?_)
        · refine g_iincN C (lv' := [(4, .int (nI (k + 1))), (5, .int (bc ((thOn f k 7) &&& ((thSet f (f 48) 6) ^^^ (-1))))), (0, .ref c0), (1, .int (thSet f (f 48) 6)), (2, .int a), (3, .int b)]) dX11_next_70 5 rfl (by decide) rfl ?_
          refine g_goto C 16 dX11_next_73 (by decide) ?_
          refine g_sub (lv' := [(0, .ref c0), (1, .int (thSet f (f 48) 6)), (2, .int a), (3, .int b), (4, .int (nI (k + 1)))]) [2, 3, 4, 5, 0] rfl ?_
          exact ihL16 (k + 1) a b (by omega) (by omega) (by rw [nxS]; first | (rw [if_pos cq2, ← ha]; done) | (rw [if_neg cq1, ← hb, if_pos (show nxF f k ≤ b from cq2), ← ha]; done) | (rw [if_neg cq1, ← hb, if_neg (show ¬ nxF f k ≤ b from cq2)]; done)) (by rw [nxS]; first | (rw [if_pos cq2, ← hb]; done) | (rw [if_neg cq1, ← hb, if_pos (show nxF f k ≤ b from cq2), ← hb]; done) | (rw [if_neg cq1, ← hb, if_neg (show ¬ nxF f k ≤ b from cq2)]; rfl))
        · refine g_iload C dX11_next_58 0 rfl ?_
          refine g_iload_n C dX11_next_60 rfl 4 rfl ?_
          refine g_icmp_le C 70 dX11_next_61 (by decide) (fun cq3 => ?_) (fun cq3 => ?_)
          · refine g_iincN C (lv' := [(4, .int (nI (k + 1))), (5, .int (bc ((thOn f k 7) &&& ((thSet f (f 48) 6) ^^^ (-1))))), (0, .ref c0), (1, .int (thSet f (f 48) 6)), (2, .int a), (3, .int b)]) dX11_next_70 5 rfl (by decide) rfl ?_
            refine g_goto C 16 dX11_next_73 (by decide) ?_
            refine g_sub (lv' := [(0, .ref c0), (1, .int (thSet f (f 48) 6)), (2, .int a), (3, .int b), (4, .int (nI (k + 1)))]) [2, 3, 4, 5, 0] rfl ?_
            exact ihL16 (k + 1) a b (by omega) (by omega) (by rw [nxS]; first | (rw [if_pos cq3, ← ha]; done) | (rw [if_neg cq2, ← hb, if_pos (show nxF f k ≤ b from cq3), ← ha]; done) | (rw [if_neg cq2, ← hb, if_neg (show ¬ nxF f k ≤ b from cq3)]; done)) (by rw [nxS]; first | (rw [if_pos cq3, ← hb]; done) | (rw [if_neg cq2, ← hb, if_pos (show nxF f k ≤ b from cq3), ← hb]; done) | (rw [if_neg cq2, ← hb, if_neg (show ¬ nxF f k ≤ b from cq3)]; rfl))
          · refine g_iload C dX11_next_64 0 rfl ?_
            refine g_istore_n C (lv' := [(3, .int (bc ((thOn f k 7) &&& ((thSet f (f 48) 6) ^^^ (-1))))), (5, .int (bc ((thOn f k 7) &&& ((thSet f (f 48) 6) ^^^ (-1))))), (0, .ref c0), (1, .int (thSet f (f 48) 6)), (2, .int a), (4, .int (nI k))]) dX11_next_66 rfl (by decide) rfl ?_
            refine g_iload C dX11_next_67 5 rfl ?_
            refine g_istore_n C (lv' := [(2, .int (nI k)), (3, .int (bc ((thOn f k 7) &&& ((thSet f (f 48) 6) ^^^ (-1))))), (5, .int (bc ((thOn f k 7) &&& ((thSet f (f 48) 6) ^^^ (-1))))), (0, .ref c0), (1, .int (thSet f (f 48) 6)), (4, .int (nI k))]) dX11_next_69 rfl (by decide) rfl ?_
            refine g_iincN C (lv' := [(4, .int (nI (k + 1))), (2, .int (nI k)), (3, .int (bc ((thOn f k 7) &&& ((thSet f (f 48) 6) ^^^ (-1))))), (5, .int (bc ((thOn f k 7) &&& ((thSet f (f 48) 6) ^^^ (-1))))), (0, .ref c0), (1, .int (thSet f (f 48) 6))]) dX11_next_70 5 rfl (by decide) rfl ?_
            refine g_goto C 16 dX11_next_73 (by decide) ?_
            refine g_sub (lv' := [(0, .ref c0), (1, .int (thSet f (f 48) 6)), (2, .int (nI k)), (3, .int (bc ((thOn f k 7) &&& ((thSet f (f 48) 6) ^^^ (-1))))), (4, .int (nI (k + 1)))]) [4, 5, 1, 2, 0] rfl ?_
            exact ihL16 (k + 1) (nI k) (bc ((thOn f k 7) &&& ((thSet f (f 48) 6) ^^^ (-1)))) (by omega) (by omega) (by rw [nxS]; first | (rw [if_pos cq3, ← ha]; done) | (rw [if_neg cq2, ← hb, if_pos (show nxF f k ≤ b from cq3), ← ha]; done) | (rw [if_neg cq2, ← hb, if_neg (show ¬ nxF f k ≤ b from cq3)]; done)) (by rw [nxS]; first | (rw [if_pos cq3, ← hb]; done) | (rw [if_neg cq2, ← hb, if_pos (show nxF f k ≤ b from cq3), ← hb]; done) | (rw [if_neg cq2, ← hb, if_neg (show ¬ nxF f k ≤ b from cq3)]; rfl))
  refine g_sub (lv' := [(0, .ref c0), (1, .int (thSet f (f 48) 6)), (2, .int (-9)), (3, .int (-1)), (4, .int (nI 0))]) [4, 3, 2, 1, 0] rfl ?_
  exact L16 (T.2.1 + 1 - 0) 0 (-9) (-1) (by omega) (by omega) (by first | rfl | omega | (simp []; done)) (by first | rfl | omega | (simp []; done))
