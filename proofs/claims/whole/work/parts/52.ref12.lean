/-! the reference: the odds -/
def pX (h : Int64) : Nat → Int64
  | 0 => 1
  | k + 1 => pX h k * (10 * h)
def pY (h y : Int64) : Nat → Int64
  | 0 => 1
  | k + 1 => pY h y k * (10 * h - y)
def euT : Nat → Int64 → Int64 → Bool
  | 0, _, b => decide (b = 0)
  | z + 1, a, b => if b = 0 then true else euT z b (a - a / b * b)
def euR : Nat → Int64 → Int64 → Int64
  | 0, a, _ => a
  | z + 1, a, b => if b = 0 then a else euR z b (a - a / b * b)
def oX (x : Int32) (t n : Nat) : Int64 := if tb x t = 0 then 1 else pX (bc x).toInt64 n
def oY (x y : Int32) (t n : Nat) : Int64 := if tb x t = 0 then 1 else pY (bc x).toInt64 y.toInt64 n
theorem lgc_eq (x y : Int64) : lg_cmp x y = 0 ↔ x = y := by
  unfold lg_cmp
  by_cases h1 : y < x
  · rw [if_pos h1]; exact ⟨fun h => absurd h (by decide), fun h => absurd (h ▸ h1) Int64.lt_irrefl⟩
  · rw [if_neg h1]
    by_cases h2 : x = y
    · rw [if_pos h2]; exact ⟨fun _ => h2, fun _ => rfl⟩
    · rw [if_neg h2]; exact ⟨fun h => absurd h (by decide), fun h => absurd h h2⟩
theorem in6 {n : Int32} : inR n 6 ↔ ¬ n < 0 ∧ ¬ nI 5 < n := by
  refine and_congr_right (fun h0 => not_congr ?_)
  obtain ⟨j, hj, rfl⟩ := nI_of h0
  rw [nI_ltI (by decide) hj, nI_leI (by decide) hj]
  exact Iff.rfl
def odK (h y : Nat) (n : Nat) : Bool := euT 40 (pX (nI h).toInt64 n - pY (nI h).toInt64 (nI y).toInt64 n) (pX (nI h).toInt64 n) && decide (¬ euR 40 (pX (nI h).toInt64 n - pY (nI h).toInt64 (nI y).toInt64 n) (pX (nI h).toInt64 n) = 0) && decide (¬ nI 10 * nI h = 0) && decide ((pX (nI h).toInt64 n - pY (nI h).toInt64 (nI y).toInt64 n) / euR 40 (pX (nI h).toInt64 n - pY (nI h).toInt64 (nI y).toInt64 n) (pX (nI h).toInt64 n) = powS (nI 10 * nI h / gcS (nI 10 * nI h) (nI 10 * nI h - nI y)) n - powS ((nI 10 * nI h - nI y) / gcS (nI 10 * nI h) (nI 10 * nI h - nI y)) n) && decide (pX (nI h).toInt64 n / euR 40 (pX (nI h).toInt64 n - pY (nI h).toInt64 (nI y).toInt64 n) (pX (nI h).toInt64 n) = powS (nI 10 * nI h / gcS (nI 10 * nI h) (nI 10 * nI h - nI y)) n)
theorem odK_all : ∀ h, h < 7 → ∀ y, y < 11 → ∀ n, n < 6 → odK (h + 1) y n = true := by decide +kernel
theorem od_ok {x y : Int32} {t n : Nat} (hx : s7 x) (hy : ∃ j, j ≤ 10 ∧ y = nI j) (ht : t < 7) (hn : n ≤ 5) : euT 40 (oX x t n - oY x y t n) (oX x t n) = true ∧ ¬ euR 40 (oX x t n - oY x y t n) (oX x t n) = 0 ∧ (oX x t n - oY x y t n) / euR 40 (oX x t n - oY x y t n) (oX x t n) = odC x y 0 t n ∧ oX x t n / euR 40 (oX x t n - oY x y t n) (oX x t n) = odC x y (nI 1) t n := by
  unfold oX oY odC
  by_cases hb : tb x t = 0
  · rw [if_pos hb, if_pos hb, if_pos hb, if_pos hb]
    exact ⟨by decide +kernel, by decide +kernel, by decide +kernel, by decide +kernel⟩
  · rw [if_neg hb, if_neg hb, if_neg hb, if_neg hb]
    obtain ⟨s, hs, rfl⟩ := hx
    obtain ⟨y, hy, rfl⟩ := hy
    obtain ⟨c, hc, ec, hc1, -⟩ := bc_s7 s hs
    have h0 : ¬ nI s = 0 := fun z => hb (by
      rw [z]
      exact tb_00 t ht)
    have h1 := hc1 h0
    have hK := odK_all (c - 1) (by omega) y (by omega) n (by omega)
    rw [show c - 1 + 1 = c by omega] at hK
    unfold odK at hK
    rw [Bool.and_eq_true, Bool.and_eq_true, Bool.and_eq_true, Bool.and_eq_true, decide_eq_true_eq, decide_eq_true_eq, decide_eq_true_eq, decide_eq_true_eq] at hK
    obtain ⟨⟨⟨⟨k1, k2⟩, k3⟩, k4⟩, k5⟩ := hK
    have e10 : odW (nI s) = nI 10 * nI c := by unfold odW; rw [ec]
    rw [if_neg (show ¬ odW (nI s) = 0 by rw [e10]; exact k3), if_neg (show ¬ odW (nI s) = 0 by rw [e10]; exact k3), if_pos rfl, if_neg (by decide), e10, ec]
    exact ⟨k1, k2, k4, k5⟩

set_option maxHeartbeats 4000000 in
set_option maxRecDepth 100000 in
theorem kX12_odds (l : Launch) (E : EX) (m0 x0 x1 x2 x3 x4 x5 x6 x7 x8 x9 n und nt : Nat) (tr : Int64) (Q : RS) (T : TS) (p t nq what : Int32) (hT : TI T) (hn : T.1 ≤ 6) : M l E yX12_odds wsX12_odds { frames := 2, cells := 0, slots := 0, locals := 46 } 0 0 [.ref m0, .int p, .int t, .int nq, .int what] [(m0, oB 12 [.ref x0, .int (nI n), .int (nI Q.1), .int (nI Q.2.2.1), .int Q.2.1, .int Q.2.2.2, .ref x1, .ref x2, .ref x3, .ref x4, .int (nI und), .ref x5, .ref x6, .int (nI nt), .ref x7, .ref x8, .long tr, .ref x9]), (x2, iA E 21 (papO T))] (is1 (some (.long (odS T p t nq what))) [(m0, oB 12 [.ref x0, .int (nI n), .int (nI Q.1), .int (nI Q.2.2.1), .int Q.2.1, .int Q.2.2.2, .ref x1, .ref x2, .ref x3, .ref x4, .int (nI und), .ref x5, .ref x6, .int (nI nt), .ref x7, .ref x8, .long tr, .ref x9]), (x2, iA E 21 (papO T))]) := by
  refine M.ofG (cc := cX12_odds) (maxL := 17) (ret := (some .long)) (lv := [(0, .ref m0), (1, .int p), (2, .int t), (3, .int nq), (4, .int what)]) (own := RX12) (by decide) rfl rfl (Nat.le_of_ble_eq_true rfl) rfl ?_
  intro K C X _
  have i12 : ∀ w ∈ wsX120, w ∈ wsX12_odds := by decide +kernel
  refine g_aload_n C dX12_odds_0 rfl 0 rfl ?_
  refine g_iload_n C dX12_odds_1 rfl 1 rfl ?_
  refine g_callV C (rest := []) (n := 1) (kX12_isPerson l E m0 x0 x1 x2 x3 x4 x5 x6 x7 x8 x9 n und nt tr Q T p (by omega)) gX12_odds_X12_isPerson rfl ⟨rfl, rfl⟩ (by decide) (Nat.le_of_ble_eq_true rfl) rfl (by decide +kernel) rfl dX12_odds_2 0 rfl rfl [0, 1] [] rfl rfl ?_
  refine g_is1 (ws2 := [(m0, oB 12 [.ref x0, .int (nI n), .int (nI Q.1), .int (nI Q.2.2.1), .int Q.2.1, .int Q.2.2.2, .ref x1, .ref x2, .ref x3, .ref x4, .int (nI und), .ref x5, .ref x6, .int (nI nt), .ref x7, .ref x8, .long tr, .ref x9]), (x2, iA E 21 (papO T))]) (st2 := [.int (bI (inR p T.1))]) [0, 1] rfl rfl rfl ?_
  refine g_if_eqB C 38 dX12_odds_5 (by decide) (fun cq1 => ?_) (fun cq1 => ?_)
  · have hno : ¬ odO T.1 p t nq what := fun w => cq1 w.1
    refine g_ldc2 C (v := (-1)) (List.mem_of_getElem? (i := 2) rfl) dX12_odds_38 ?_
    exact g_lret C X dX12_odds_41 (⟨by unfold odS; rw [if_neg hno], rfl⟩)
  · refine g_iload_n C dX12_odds_8 rfl 2 rfl ?_
    refine g_callS C (rest := []) (n := 1) (kX12_isThing l E t ) gX12_odds_X12_isThing rfl ⟨rfl, rfl⟩ (by decide) (Nat.le_of_ble_eq_true rfl) rfl (by decide +kernel) rfl dX12_odds_9 [] [0, 1] rfl rfl ?_
    refine g_is1 (ws2 := [(m0, oB 12 [.ref x0, .int (nI n), .int (nI Q.1), .int (nI Q.2.2.1), .int Q.2.1, .int Q.2.2.2, .ref x1, .ref x2, .ref x3, .ref x4, .int (nI und), .ref x5, .ref x6, .int (nI nt), .ref x7, .ref x8, .long tr, .ref x9]), (x2, iA E 21 (papO T))]) (st2 := [.int (bI (inR t 7))]) [0, 1] rfl rfl rfl ?_
    refine g_if_eqB C 38 dX12_odds_12 (by decide) (fun cq2 => ?_) (fun cq2 => ?_)
    · have hno : ¬ odO T.1 p t nq what := fun w => cq2 w.2.1
      refine g_ldc2 C (v := (-1)) (List.mem_of_getElem? (i := 2) rfl) dX12_odds_38 ?_
      exact g_lret C X dX12_odds_41 (⟨by unfold odS; rw [if_neg hno], rfl⟩)
    · refine g_iload_n C dX12_odds_15 rfl 3 rfl ?_
      refine g_i2l C dX12_odds_16 ?_
      refine g_lconst C 0 dX12_odds_17 rfl ?_
      refine g_ldc2 C (v := 5) (List.mem_of_getElem? (i := 1) rfl) dX12_odds_18 ?_
      refine g_callS C (rest := []) (n := 3) (kX12_in_5 l E nq ) gX12_odds_X12_in rfl ⟨rfl, rfl⟩ (by decide) (Nat.le_of_ble_eq_true rfl) rfl (by decide +kernel) rfl dX12_odds_21 [] [0, 1] rfl rfl ?_
      refine g_is1 (ws2 := [(m0, oB 12 [.ref x0, .int (nI n), .int (nI Q.1), .int (nI Q.2.2.1), .int Q.2.1, .int Q.2.2.2, .ref x1, .ref x2, .ref x3, .ref x4, .int (nI und), .ref x5, .ref x6, .int (nI nt), .ref x7, .ref x8, .long tr, .ref x9]), (x2, iA E 21 (papO T))]) (st2 := [.int (bI (inR nq 6))]) [0, 1] rfl rfl rfl ?_
      refine g_if_eqB C 38 dX12_odds_24 (by decide) (fun cq3 => ?_) (fun cq3 => ?_)
      · have hno : ¬ odO T.1 p t nq what := fun w => cq3 (in6.mpr ⟨w.2.2.1, w.2.2.2.1⟩)
        refine g_ldc2 C (v := (-1)) (List.mem_of_getElem? (i := 2) rfl) dX12_odds_38 ?_
        exact g_lret C X dX12_odds_41 (⟨by unfold odS; rw [if_neg hno], rfl⟩)
      · refine g_iload C dX12_odds_27 4 rfl ?_
        refine g_i2l C dX12_odds_29 ?_
        refine g_lconst C 0 dX12_odds_30 rfl ?_
        refine g_lconst C 1 dX12_odds_31 rfl ?_
        refine g_callS C (rest := []) (n := 3) (kX12_in_zo l E what ) gX12_odds_X12_in rfl ⟨rfl, rfl⟩ (by decide) (Nat.le_of_ble_eq_true rfl) rfl (by decide +kernel) rfl dX12_odds_32 [] [0, 1] rfl rfl ?_
        refine g_is1 (ws2 := [(m0, oB 12 [.ref x0, .int (nI n), .int (nI Q.1), .int (nI Q.2.2.1), .int Q.2.1, .int Q.2.2.2, .ref x1, .ref x2, .ref x3, .ref x4, .int (nI und), .ref x5, .ref x6, .int (nI nt), .ref x7, .ref x8, .long tr, .ref x9]), (x2, iA E 21 (papO T))]) (st2 := [.int (bI (zo what))]) [0, 1] rfl rfl rfl ?_
        refine g_if_neB C 42 dX12_odds_35 (by decide) (fun cq4 => ?_) (fun cq4 => ?_)
        · have hy : odO T.1 p t nq what := ⟨cq1, cq2, (in6.mp cq3).1, (in6.mp cq3).2, cq4⟩
          have hzo := cq4
          obtain ⟨pj, hj_pj, rfl⟩ := inR_of (n := T.1) (by omega) cq1
          have hcl_pj : (nI pj).toNatClampNeg = pj := nI_clamp (by omega)
          obtain ⟨tj, hj_tj, rfl⟩ := inR_of (n := 7) (by decide) cq2
          have hcl_tj : (nI tj).toNatClampNeg = tj := nI_clamp (by omega)
          obtain ⟨nj, hj_nj, rfl⟩ := inR_of (n := 6) (by decide) cq3
          have hcl_nj : (nI nj).toNatClampNeg = nj := nI_clamp (by omega)
          refine g_aload_n C dX12_odds_42 rfl 0 rfl ?_
          refine g_iload_n C dX12_odds_43 rfl 1 rfl ?_
          refine g_callV C (rest := []) (n := 1) (kX12_knows l E m0 x0 x1 x2 x3 x4 x5 x6 x7 x8 x9 n und nt tr Q T pj (by omega) (hn)) gX12_odds_X12_knows rfl ⟨rfl, rfl⟩ (by decide) (Nat.le_of_ble_eq_true rfl) rfl (by decide +kernel) rfl dX12_odds_44 0 rfl rfl [0, 1] [] rfl rfl ?_
          refine g_is1 (ws2 := [(m0, oB 12 [.ref x0, .int (nI n), .int (nI Q.1), .int (nI Q.2.2.1), .int Q.2.1, .int Q.2.2.2, .ref x1, .ref x2, .ref x3, .ref x4, .int (nI und), .ref x5, .ref x6, .int (nI nt), .ref x7, .ref x8, .long tr, .ref x9]), (x2, iA E 21 (papO T))]) (st2 := [.int (T.2.2.1 pj)]) [0, 1] rfl rfl rfl ?_
          refine g_callS C (rest := []) (n := 1) (kX12_many l E (T.2.2.1 pj) (hT.2.2.2.1 pj (by omega))) gX12_odds_X12_many rfl ⟨rfl, rfl⟩ (by decide) (Nat.le_of_ble_eq_true rfl) rfl (by decide +kernel) rfl dX12_odds_47 [] [0, 1] rfl rfl ?_
          refine g_is1 (ws2 := [(m0, oB 12 [.ref x0, .int (nI n), .int (nI Q.1), .int (nI Q.2.2.1), .int Q.2.1, .int Q.2.2.2, .ref x1, .ref x2, .ref x3, .ref x4, .int (nI und), .ref x5, .ref x6, .int (nI nt), .ref x7, .ref x8, .long tr, .ref x9]), (x2, iA E 21 (papO T))]) (st2 := [.int (bc (T.2.2.1 pj))]) [0, 1] rfl rfl rfl ?_
          refine g_istore C (lv' := [(5, .int (bc (T.2.2.1 pj))), (0, .ref m0), (1, .int (nI pj)), (2, .int (nI tj)), (3, .int (nI nj)), (4, .int what)]) dX12_odds_50 (by decide) rfl ?_
          refine g_aload_n C dX12_odds_52 rfl 1 rfl ?_
          refine g_iload_n C dX12_odds_53 rfl 2 rfl ?_
          refine g_callV C (rest := []) (n := 1) (kX12_knows l E m0 x0 x1 x2 x3 x4 x5 x6 x7 x8 x9 n und nt tr Q T pj (by omega) (hn)) gX12_odds_X12_knows rfl ⟨rfl, rfl⟩ (by decide) (Nat.le_of_ble_eq_true rfl) rfl (by decide +kernel) rfl dX12_odds_54 0 rfl rfl [0, 1] [] rfl rfl ?_
          refine g_is1 (ws2 := [(m0, oB 12 [.ref x0, .int (nI n), .int (nI Q.1), .int (nI Q.2.2.1), .int Q.2.1, .int Q.2.2.2, .ref x1, .ref x2, .ref x3, .ref x4, .int (nI und), .ref x5, .ref x6, .int (nI nt), .ref x7, .ref x8, .long tr, .ref x9]), (x2, iA E 21 (papO T))]) (st2 := [.int (T.2.2.1 pj)]) [0, 1] rfl rfl rfl ?_
          refine g_iload_n C dX12_odds_57 rfl 3 rfl ?_
          refine g_ishr C dX12_odds_58 ?_
          refine g_iconst C (nI 1) dX12_odds_59 (by decide) ?_
          refine g_iand C dX12_odds_60 ?_
          refine g_iconst C (nI 1) dX12_odds_61 (by decide) ?_
          refine g_icmp_ne C 69 dX12_odds_62 (by decide) (fun cq5 => ?_) (fun cq5 => ?_)
          · have hb9 : tb (T.2.2.1 pj) tj = 0 := tb_n1 cq5
            refine g_iconst C (nI 0) dX12_odds_69 (by decide) ?_
            refine g_istore C (lv' := [(6, .int (nI 0)), (5, .int (bc (T.2.2.1 pj))), (0, .ref m0), (1, .int (nI pj)), (2, .int (nI tj)), (3, .int (nI nj)), (4, .int what)]) dX12_odds_70 (by decide) rfl ?_
            refine g_lconst C 1 dX12_odds_72 rfl ?_
            refine g_lstore C (lv' := [(7, .long 1), (6, .int (nI 0)), (5, .int (bc (T.2.2.1 pj))), (0, .ref m0), (1, .int (nI pj)), (2, .int (nI tj)), (3, .int (nI nj)), (4, .int what)]) dX12_odds_73 (by decide) rfl ?_
            refine g_lconst C 1 dX12_odds_75 rfl ?_
            refine g_lstore C (lv' := [(9, .long 1), (7, .long 1), (6, .int (nI 0)), (5, .int (bc (T.2.2.1 pj))), (0, .ref m0), (1, .int (nI pj)), (2, .int (nI tj)), (3, .int (nI nj)), (4, .int what)]) dX12_odds_76 (by decide) rfl ?_
            refine g_iconst C (nI 0) dX12_odds_78 (by decide) ?_
            refine g_istore C (lv' := [(11, .int (nI 0)), (9, .long 1), (7, .long 1), (6, .int (nI 0)), (5, .int (bc (T.2.2.1 pj))), (0, .ref m0), (1, .int (nI pj)), (2, .int (nI tj)), (3, .int (nI nj)), (4, .int what)]) dX12_odds_79 (by decide) rfl ?_
            have L81 : ∀ (zz k : Nat) (xx : Int64) (yy : Int64), k + zz = nj + 1 → k ≤ nj → (xx = pX (bc (T.2.2.1 pj)).toInt64 k) → (yy = pY (bc (T.2.2.1 pj)).toInt64 (T.2.2.2.1 pj).toInt64 k) → (tb (T.2.2.1 pj) tj = 0 → k = 0) → G K 0 0 81 [(0, .ref m0), (1, .int (nI pj)), (2, .int (nI tj)), (3, .int (nI nj)), (4, .int what), (5, .int (bc (T.2.2.1 pj))), (6, .int (nI 0)), (7, .long xx), (9, .long yy), (11, .int (nI k))] [] [(m0, oB 12 [.ref x0, .int (nI n), .int (nI Q.1), .int (nI Q.2.2.1), .int Q.2.1, .int Q.2.2.2, .ref x1, .ref x2, .ref x3, .ref x4, .int (nI und), .ref x5, .ref x6, .int (nI nt), .ref x7, .ref x8, .long tr, .ref x9]), (x2, iA E 21 (papO T))] := by
              intro zz
              induction zz with
              | zero => intro k xx yy hL81 gL81; exfalso; omega
              | succ zz ihL81 =>
                intro k xx yy hL81 gL81 hX hY hk0
                refine g_iload C dX12_odds_81 9 rfl ?_
                refine g_iload_n C dX12_odds_83 rfl 3 rfl ?_
                refine g_icmp_geN C 136 dX12_odds_84 (by decide) (by omega) (by omega) (fun cq6 => ?_) (fun cq6 => ?_)
                · have hX2 : xx = oX (T.2.2.1 pj) tj nj := by unfold oX; first | (rw [if_pos hb9, hX, hk0 hb9]; rfl) | (rw [if_neg hb9, hX, show k = nj by omega])
                  have hY2 : yy = oY (T.2.2.1 pj) (T.2.2.2.1 pj) tj nj := by unfold oY; first | (rw [if_pos hb9, hY, hk0 hb9]; rfl) | (rw [if_neg hb9, hY, show k = nj by omega])
                  have hok := od_ok (hT.2.2.2.1 pj (by omega)) (hT.2.2.2.2.1 pj (by omega)) (show tj < 7 by omega) (show nj ≤ 5 by omega)
                  rw [← hX2, ← hY2] at hok
                  refine g_lload C dX12_odds_136 7 rfl ?_
                  refine g_lload C dX12_odds_138 8 rfl ?_
                  refine g_lsub C dX12_odds_140 ?_
                  refine g_lstore C (lv' := [(11, .long (xx - yy)), (0, .ref m0), (1, .int (nI pj)), (2, .int (nI tj)), (3, .int (nI nj)), (4, .int what), (5, .int (bc (T.2.2.1 pj))), (6, .int (nI 0)), (7, .long xx), (9, .long yy)]) dX12_odds_141 (by decide) rfl ?_
                  refine g_lload C dX12_odds_143 8 rfl ?_
                  refine g_lstore C (lv' := [(13, .long xx), (11, .long (xx - yy)), (0, .ref m0), (1, .int (nI pj)), (2, .int (nI tj)), (3, .int (nI nj)), (4, .int what), (5, .int (bc (T.2.2.1 pj))), (6, .int (nI 0)), (7, .long xx), (9, .long yy)]) dX12_odds_145 (by decide) rfl ?_
                  have L147 : ∀ (zz k4 : Nat) (g : Int64) (r : Int64), k4 + zz = 40 + 1 → k4 ≤ 40 → (euT (40 - k4) g r = true) → (euR (40 - k4) g r = euR 40 (xx - yy) xx) → G K 0 0 147 [(0, .ref m0), (1, .int (nI pj)), (2, .int (nI tj)), (3, .int (nI nj)), (4, .int what), (5, .int (bc (T.2.2.1 pj))), (6, .int (nI 0)), (7, .long xx), (9, .long yy), (11, .long g), (13, .long r)] [] [(m0, oB 12 [.ref x0, .int (nI n), .int (nI Q.1), .int (nI Q.2.2.1), .int Q.2.1, .int Q.2.2.2, .ref x1, .ref x2, .ref x3, .ref x4, .int (nI und), .ref x5, .ref x6, .int (nI nt), .ref x7, .ref x8, .long tr, .ref x9]), (x2, iA E 21 (papO T))] := by
                    intro zz
                    induction zz with
                    | zero => intro k4 g r hL147 gL147; exfalso; omega
                    | succ zz ihL147 =>
                      intro k4 g r hL147 gL147 ht hr
                      refine g_lload C dX12_odds_147 10 rfl ?_
                      refine g_lconst C 0 dX12_odds_149 rfl ?_
                      refine g_lcmp C dX12_odds_150 ?_
                      refine g_if_eq C 172 dX12_odds_151 (by decide) (fun cq7 => ?_) (fun cq7 => ?_)
                      · have hr0 : r = 0 := (lgc_eq _ _).mp cq7
                        have hge : g = euR 40 (xx - yy) xx := by rw [← hr, hr0]; cases 40 - k4 <;> simp [euR]
                        have hg0 : ¬ g = 0 := by rw [hge]; exact hok.2.1
                        refine g_iload C dX12_odds_172 4 rfl ?_
                        refine g_if_ne C 188 dX12_odds_174 (by decide) (fun cq8 => ?_) (fun cq8 => ?_)
                        · refine g_lload C dX12_odds_188 7 rfl ?_
                          refine g_lload C dX12_odds_190 9 rfl ?_
                          refine g_ldiv C dX12_odds_192 (hg0) ?_
                          exact g_lret C X dX12_odds_193 (⟨by unfold odS; rw [if_pos hy, hcl_pj, hcl_tj, hcl_nj, hge]; first | (rw [hok.2.2.2, hzo.resolve_left cq8]; done) | (rw [hok.2.2.1, cq8]; done), rfl⟩)
                        · refine g_lload C dX12_odds_177 7 rfl ?_
                          refine g_lload C dX12_odds_179 8 rfl ?_
                          refine g_lsub C dX12_odds_181 ?_
                          refine g_lload C dX12_odds_182 9 rfl ?_
                          refine g_ldiv C dX12_odds_184 (hg0) ?_
                          refine g_goto C 193 dX12_odds_185 (by decide) ?_
                          exact g_lret C X dX12_odds_193 (⟨by unfold odS; rw [if_pos hy, hcl_pj, hcl_tj, hcl_nj, hge]; first | (rw [hok.2.2.2, hzo.resolve_left cq8]; done) | (rw [hok.2.2.1, cq8]; done), rfl⟩)
                      · have hr0 : ¬ r = 0 := fun z => cq7 ((lgc_eq _ _).mpr z)
                        have hk4 : k4 < 40 := by rcases Nat.lt_or_ge k4 40 with h | h; (exact h); (rw [show 40 - k4 = 0 by omega, euT, decide_eq_true_eq] at ht; exact absurd ht hr0)
                        refine g_lload C dX12_odds_154 9 rfl ?_
                        refine g_lload C dX12_odds_156 10 rfl ?_
                        refine g_lrem C dX12_odds_158 (hr0) ?_
                        refine g_lstore C (lv' := [(15, .long (g - g / r * r)), (0, .ref m0), (1, .int (nI pj)), (2, .int (nI tj)), (3, .int (nI nj)), (4, .int what), (5, .int (bc (T.2.2.1 pj))), (6, .int (nI 0)), (7, .long xx), (9, .long yy), (11, .long g), (13, .long r)]) dX12_odds_159 (by decide) rfl ?_
                        refine g_lload C dX12_odds_161 11 rfl ?_
                        refine g_lstore C (lv' := [(11, .long r), (15, .long (g - g / r * r)), (0, .ref m0), (1, .int (nI pj)), (2, .int (nI tj)), (3, .int (nI nj)), (4, .int what), (5, .int (bc (T.2.2.1 pj))), (6, .int (nI 0)), (7, .long xx), (9, .long yy), (13, .long r)]) dX12_odds_163 (by decide) rfl ?_
                        refine g_lload C dX12_odds_165 1 rfl ?_
                        refine g_lstore C (lv' := [(13, .long (g - g / r * r)), (11, .long r), (15, .long (g - g / r * r)), (0, .ref m0), (1, .int (nI pj)), (2, .int (nI tj)), (3, .int (nI nj)), (4, .int what), (5, .int (bc (T.2.2.1 pj))), (6, .int (nI 0)), (7, .long xx), (9, .long yy)]) dX12_odds_167 (by decide) rfl ?_
                        refine g_goto C 147 dX12_odds_169 (by decide) ?_
                        refine g_sub (lv' := [(0, .ref m0), (1, .int (nI pj)), (2, .int (nI tj)), (3, .int (nI nj)), (4, .int what), (5, .int (bc (T.2.2.1 pj))), (6, .int (nI 0)), (7, .long xx), (9, .long yy), (11, .long r), (13, .long (g - g / r * r))]) [3, 4, 5, 6, 7, 8, 9, 10, 11, 1, 0] rfl ?_
                        exact ihL147 (k4 + 1) r (g - g / r * r) (by omega) (by omega) (by rw [show 40 - k4 = (40 - (k4 + 1)) + 1 by omega, euT, if_neg hr0] at ht; exact ht) (by rw [← hr, show 40 - k4 = (40 - (k4 + 1)) + 1 by omega, euR, if_neg hr0])
                  refine g_sub (lv' := [(0, .ref m0), (1, .int (nI pj)), (2, .int (nI tj)), (3, .int (nI nj)), (4, .int what), (5, .int (bc (T.2.2.1 pj))), (6, .int (nI 0)), (7, .long xx), (9, .long yy), (11, .long (xx - yy)), (13, .long xx)]) [2, 3, 4, 5, 6, 7, 8, 9, 10, 1, 0] rfl ?_
                  exact L147 (40 + 1 - 0) 0 (xx - yy) xx (by omega) (by omega) (hok.1) (rfl)
                · refine g_iload C dX12_odds_87 6 rfl ?_
                  refine g_if_eqN C 136 dX12_odds_89 (by decide) (by omega) (fun cq9 => ?_) (fun cq9 => ?_)
                  · have hX2 : xx = oX (T.2.2.1 pj) tj nj := by unfold oX; first | (rw [if_pos hb9, hX, hk0 hb9]; rfl) | (rw [if_neg hb9, hX, show k = nj by omega])
                    have hY2 : yy = oY (T.2.2.1 pj) (T.2.2.2.1 pj) tj nj := by unfold oY; first | (rw [if_pos hb9, hY, hk0 hb9]; rfl) | (rw [if_neg hb9, hY, show k = nj by omega])
                    have hok := od_ok (hT.2.2.2.1 pj (by omega)) (hT.2.2.2.2.1 pj (by omega)) (show tj < 7 by omega) (show nj ≤ 5 by omega)
                    rw [← hX2, ← hY2] at hok
                    refine g_lload C dX12_odds_136 7 rfl ?_
                    refine g_lload C dX12_odds_138 8 rfl ?_
                    refine g_lsub C dX12_odds_140 ?_
                    refine g_lstore C (lv' := [(11, .long (xx - yy)), (0, .ref m0), (1, .int (nI pj)), (2, .int (nI tj)), (3, .int (nI nj)), (4, .int what), (5, .int (bc (T.2.2.1 pj))), (6, .int (nI 0)), (7, .long xx), (9, .long yy)]) dX12_odds_141 (by decide) rfl ?_
                    refine g_lload C dX12_odds_143 8 rfl ?_
                    refine g_lstore C (lv' := [(13, .long xx), (11, .long (xx - yy)), (0, .ref m0), (1, .int (nI pj)), (2, .int (nI tj)), (3, .int (nI nj)), (4, .int what), (5, .int (bc (T.2.2.1 pj))), (6, .int (nI 0)), (7, .long xx), (9, .long yy)]) dX12_odds_145 (by decide) rfl ?_
                    have L147x : ∀ (zz k4 : Nat) (g : Int64) (r : Int64), k4 + zz = 40 + 1 → k4 ≤ 40 → (euT (40 - k4) g r = true) → (euR (40 - k4) g r = euR 40 (xx - yy) xx) → G K 0 0 147 [(0, .ref m0), (1, .int (nI pj)), (2, .int (nI tj)), (3, .int (nI nj)), (4, .int what), (5, .int (bc (T.2.2.1 pj))), (6, .int (nI 0)), (7, .long xx), (9, .long yy), (11, .long g), (13, .long r)] [] [(m0, oB 12 [.ref x0, .int (nI n), .int (nI Q.1), .int (nI Q.2.2.1), .int Q.2.1, .int Q.2.2.2, .ref x1, .ref x2, .ref x3, .ref x4, .int (nI und), .ref x5, .ref x6, .int (nI nt), .ref x7, .ref x8, .long tr, .ref x9]), (x2, iA E 21 (papO T))] := by
                      intro zz
                      induction zz with
                      | zero => intro k4 g r hL147x gL147x; exfalso; omega
                      | succ zz ihL147x =>
                        intro k4 g r hL147x gL147x ht hr
                        refine g_lload C dX12_odds_147 10 rfl ?_
                        refine g_lconst C 0 dX12_odds_149 rfl ?_
                        refine g_lcmp C dX12_odds_150 ?_
                        refine g_if_eq C 172 dX12_odds_151 (by decide) (fun cq10 => ?_) (fun cq10 => ?_)
                        · have hr0 : r = 0 := (lgc_eq _ _).mp cq10
                          have hge : g = euR 40 (xx - yy) xx := by rw [← hr, hr0]; cases 40 - k4 <;> simp [euR]
                          have hg0 : ¬ g = 0 := by rw [hge]; exact hok.2.1
                          refine g_iload C dX12_odds_172 4 rfl ?_
                          refine g_if_ne C 188 dX12_odds_174 (by decide) (fun cq11 => ?_) (fun cq11 => ?_)
                          · refine g_lload C dX12_odds_188 7 rfl ?_
                            refine g_lload C dX12_odds_190 9 rfl ?_
                            refine g_ldiv C dX12_odds_192 (hg0) ?_
                            exact g_lret C X dX12_odds_193 (⟨by unfold odS; rw [if_pos hy, hcl_pj, hcl_tj, hcl_nj, hge]; first | (rw [hok.2.2.2, hzo.resolve_left cq11]; done) | (rw [hok.2.2.1, cq11]; done), rfl⟩)
                          · refine g_lload C dX12_odds_177 7 rfl ?_
                            refine g_lload C dX12_odds_179 8 rfl ?_
                            refine g_lsub C dX12_odds_181 ?_
                            refine g_lload C dX12_odds_182 9 rfl ?_
                            refine g_ldiv C dX12_odds_184 (hg0) ?_
                            refine g_goto C 193 dX12_odds_185 (by decide) ?_
                            exact g_lret C X dX12_odds_193 (⟨by unfold odS; rw [if_pos hy, hcl_pj, hcl_tj, hcl_nj, hge]; first | (rw [hok.2.2.2, hzo.resolve_left cq11]; done) | (rw [hok.2.2.1, cq11]; done), rfl⟩)
                        · have hr0 : ¬ r = 0 := fun z => cq10 ((lgc_eq _ _).mpr z)
                          have hk4 : k4 < 40 := by rcases Nat.lt_or_ge k4 40 with h | h; (exact h); (rw [show 40 - k4 = 0 by omega, euT, decide_eq_true_eq] at ht; exact absurd ht hr0)
                          refine g_lload C dX12_odds_154 9 rfl ?_
                          refine g_lload C dX12_odds_156 10 rfl ?_
                          refine g_lrem C dX12_odds_158 (hr0) ?_
                          refine g_lstore C (lv' := [(15, .long (g - g / r * r)), (0, .ref m0), (1, .int (nI pj)), (2, .int (nI tj)), (3, .int (nI nj)), (4, .int what), (5, .int (bc (T.2.2.1 pj))), (6, .int (nI 0)), (7, .long xx), (9, .long yy), (11, .long g), (13, .long r)]) dX12_odds_159 (by decide) rfl ?_
                          refine g_lload C dX12_odds_161 11 rfl ?_
                          refine g_lstore C (lv' := [(11, .long r), (15, .long (g - g / r * r)), (0, .ref m0), (1, .int (nI pj)), (2, .int (nI tj)), (3, .int (nI nj)), (4, .int what), (5, .int (bc (T.2.2.1 pj))), (6, .int (nI 0)), (7, .long xx), (9, .long yy), (13, .long r)]) dX12_odds_163 (by decide) rfl ?_
                          refine g_lload C dX12_odds_165 1 rfl ?_
                          refine g_lstore C (lv' := [(13, .long (g - g / r * r)), (11, .long r), (15, .long (g - g / r * r)), (0, .ref m0), (1, .int (nI pj)), (2, .int (nI tj)), (3, .int (nI nj)), (4, .int what), (5, .int (bc (T.2.2.1 pj))), (6, .int (nI 0)), (7, .long xx), (9, .long yy)]) dX12_odds_167 (by decide) rfl ?_
                          refine g_goto C 147 dX12_odds_169 (by decide) ?_
                          refine g_sub (lv' := [(0, .ref m0), (1, .int (nI pj)), (2, .int (nI tj)), (3, .int (nI nj)), (4, .int what), (5, .int (bc (T.2.2.1 pj))), (6, .int (nI 0)), (7, .long xx), (9, .long yy), (11, .long r), (13, .long (g - g / r * r))]) [3, 4, 5, 6, 7, 8, 9, 10, 11, 1, 0] rfl ?_
                          exact ihL147x (k4 + 1) r (g - g / r * r) (by omega) (by omega) (by rw [show 40 - k4 = (40 - (k4 + 1)) + 1 by omega, euT, if_neg hr0] at ht; exact ht) (by rw [← hr, show 40 - k4 = (40 - (k4 + 1)) + 1 by omega, euR, if_neg hr0])
                    refine g_sub (lv' := [(0, .ref m0), (1, .int (nI pj)), (2, .int (nI tj)), (3, .int (nI nj)), (4, .int what), (5, .int (bc (T.2.2.1 pj))), (6, .int (nI 0)), (7, .long xx), (9, .long yy), (11, .long (xx - yy)), (13, .long xx)]) [2, 3, 4, 5, 6, 7, 8, 9, 10, 1, 0] rfl ?_
                    exact L147x (40 + 1 - 0) 0 (xx - yy) xx (by omega) (by omega) (hok.1) (rfl)
                  · exact absurd cq9 (by decide)
            refine g_sub (lv' := [(0, .ref m0), (1, .int (nI pj)), (2, .int (nI tj)), (3, .int (nI nj)), (4, .int what), (5, .int (bc (T.2.2.1 pj))), (6, .int (nI 0)), (7, .long 1), (9, .long 1), (11, .int (nI 0))]) [5, 6, 7, 8, 9, 4, 3, 2, 1, 0] rfl ?_
            exact L81 (nj + 1 - 0) 0 1 1 (by omega) (by omega) (rfl) (rfl) (fun _ => rfl)
          · have hb9 : ¬ tb (T.2.2.1 pj) tj = 0 := tb_1 cq5
            refine g_iconst C (nI 1) dX12_odds_65 (by decide) ?_
            refine g_goto C 70 dX12_odds_66 (by decide) ?_
            refine g_istore C (lv' := [(6, .int (nI 1)), (5, .int (bc (T.2.2.1 pj))), (0, .ref m0), (1, .int (nI pj)), (2, .int (nI tj)), (3, .int (nI nj)), (4, .int what)]) dX12_odds_70 (by decide) rfl ?_
            refine g_lconst C 1 dX12_odds_72 rfl ?_
            refine g_lstore C (lv' := [(7, .long 1), (6, .int (nI 1)), (5, .int (bc (T.2.2.1 pj))), (0, .ref m0), (1, .int (nI pj)), (2, .int (nI tj)), (3, .int (nI nj)), (4, .int what)]) dX12_odds_73 (by decide) rfl ?_
            refine g_lconst C 1 dX12_odds_75 rfl ?_
            refine g_lstore C (lv' := [(9, .long 1), (7, .long 1), (6, .int (nI 1)), (5, .int (bc (T.2.2.1 pj))), (0, .ref m0), (1, .int (nI pj)), (2, .int (nI tj)), (3, .int (nI nj)), (4, .int what)]) dX12_odds_76 (by decide) rfl ?_
            refine g_iconst C (nI 0) dX12_odds_78 (by decide) ?_
            refine g_istore C (lv' := [(11, .int (nI 0)), (9, .long 1), (7, .long 1), (6, .int (nI 1)), (5, .int (bc (T.2.2.1 pj))), (0, .ref m0), (1, .int (nI pj)), (2, .int (nI tj)), (3, .int (nI nj)), (4, .int what)]) dX12_odds_79 (by decide) rfl ?_
            have L81x : ∀ (zz k : Nat) (xx : Int64) (yy : Int64), k + zz = nj + 1 → k ≤ nj → (xx = pX (bc (T.2.2.1 pj)).toInt64 k) → (yy = pY (bc (T.2.2.1 pj)).toInt64 (T.2.2.2.1 pj).toInt64 k) → (tb (T.2.2.1 pj) tj = 0 → k = 0) → G K 0 0 81 [(0, .ref m0), (1, .int (nI pj)), (2, .int (nI tj)), (3, .int (nI nj)), (4, .int what), (5, .int (bc (T.2.2.1 pj))), (6, .int (nI 1)), (7, .long xx), (9, .long yy), (11, .int (nI k))] [] [(m0, oB 12 [.ref x0, .int (nI n), .int (nI Q.1), .int (nI Q.2.2.1), .int Q.2.1, .int Q.2.2.2, .ref x1, .ref x2, .ref x3, .ref x4, .int (nI und), .ref x5, .ref x6, .int (nI nt), .ref x7, .ref x8, .long tr, .ref x9]), (x2, iA E 21 (papO T))] := by
              intro zz
              induction zz with
              | zero => intro k xx yy hL81x gL81x; exfalso; omega
              | succ zz ihL81x =>
                intro k xx yy hL81x gL81x hX hY hk0
                refine g_iload C dX12_odds_81 9 rfl ?_
                refine g_iload_n C dX12_odds_83 rfl 3 rfl ?_
                refine g_icmp_geN C 136 dX12_odds_84 (by decide) (by omega) (by omega) (fun cq12 => ?_) (fun cq12 => ?_)
                · have hX2 : xx = oX (T.2.2.1 pj) tj nj := by unfold oX; first | (rw [if_pos hb9, hX, hk0 hb9]; rfl) | (rw [if_neg hb9, hX, show k = nj by omega])
                  have hY2 : yy = oY (T.2.2.1 pj) (T.2.2.2.1 pj) tj nj := by unfold oY; first | (rw [if_pos hb9, hY, hk0 hb9]; rfl) | (rw [if_neg hb9, hY, show k = nj by omega])
                  have hok := od_ok (hT.2.2.2.1 pj (by omega)) (hT.2.2.2.2.1 pj (by omega)) (show tj < 7 by omega) (show nj ≤ 5 by omega)
                  rw [← hX2, ← hY2] at hok
                  refine g_lload C dX12_odds_136 7 rfl ?_
                  refine g_lload C dX12_odds_138 8 rfl ?_
                  refine g_lsub C dX12_odds_140 ?_
                  refine g_lstore C (lv' := [(11, .long (xx - yy)), (0, .ref m0), (1, .int (nI pj)), (2, .int (nI tj)), (3, .int (nI nj)), (4, .int what), (5, .int (bc (T.2.2.1 pj))), (6, .int (nI 1)), (7, .long xx), (9, .long yy)]) dX12_odds_141 (by decide) rfl ?_
                  refine g_lload C dX12_odds_143 8 rfl ?_
                  refine g_lstore C (lv' := [(13, .long xx), (11, .long (xx - yy)), (0, .ref m0), (1, .int (nI pj)), (2, .int (nI tj)), (3, .int (nI nj)), (4, .int what), (5, .int (bc (T.2.2.1 pj))), (6, .int (nI 1)), (7, .long xx), (9, .long yy)]) dX12_odds_145 (by decide) rfl ?_
                  have L147xx : ∀ (zz k4 : Nat) (g : Int64) (r : Int64), k4 + zz = 40 + 1 → k4 ≤ 40 → (euT (40 - k4) g r = true) → (euR (40 - k4) g r = euR 40 (xx - yy) xx) → G K 0 0 147 [(0, .ref m0), (1, .int (nI pj)), (2, .int (nI tj)), (3, .int (nI nj)), (4, .int what), (5, .int (bc (T.2.2.1 pj))), (6, .int (nI 1)), (7, .long xx), (9, .long yy), (11, .long g), (13, .long r)] [] [(m0, oB 12 [.ref x0, .int (nI n), .int (nI Q.1), .int (nI Q.2.2.1), .int Q.2.1, .int Q.2.2.2, .ref x1, .ref x2, .ref x3, .ref x4, .int (nI und), .ref x5, .ref x6, .int (nI nt), .ref x7, .ref x8, .long tr, .ref x9]), (x2, iA E 21 (papO T))] := by
                    intro zz
                    induction zz with
                    | zero => intro k4 g r hL147xx gL147xx; exfalso; omega
                    | succ zz ihL147xx =>
                      intro k4 g r hL147xx gL147xx ht hr
                      refine g_lload C dX12_odds_147 10 rfl ?_
                      refine g_lconst C 0 dX12_odds_149 rfl ?_
                      refine g_lcmp C dX12_odds_150 ?_
                      refine g_if_eq C 172 dX12_odds_151 (by decide) (fun cq13 => ?_) (fun cq13 => ?_)
                      · have hr0 : r = 0 := (lgc_eq _ _).mp cq13
                        have hge : g = euR 40 (xx - yy) xx := by rw [← hr, hr0]; cases 40 - k4 <;> simp [euR]
                        have hg0 : ¬ g = 0 := by rw [hge]; exact hok.2.1
                        refine g_iload C dX12_odds_172 4 rfl ?_
                        refine g_if_ne C 188 dX12_odds_174 (by decide) (fun cq14 => ?_) (fun cq14 => ?_)
                        · refine g_lload C dX12_odds_188 7 rfl ?_
                          refine g_lload C dX12_odds_190 9 rfl ?_
                          refine g_ldiv C dX12_odds_192 (hg0) ?_
                          exact g_lret C X dX12_odds_193 (⟨by unfold odS; rw [if_pos hy, hcl_pj, hcl_tj, hcl_nj, hge]; first | (rw [hok.2.2.2, hzo.resolve_left cq14]; done) | (rw [hok.2.2.1, cq14]; done), rfl⟩)
                        · refine g_lload C dX12_odds_177 7 rfl ?_
                          refine g_lload C dX12_odds_179 8 rfl ?_
                          refine g_lsub C dX12_odds_181 ?_
                          refine g_lload C dX12_odds_182 9 rfl ?_
                          refine g_ldiv C dX12_odds_184 (hg0) ?_
                          refine g_goto C 193 dX12_odds_185 (by decide) ?_
                          exact g_lret C X dX12_odds_193 (⟨by unfold odS; rw [if_pos hy, hcl_pj, hcl_tj, hcl_nj, hge]; first | (rw [hok.2.2.2, hzo.resolve_left cq14]; done) | (rw [hok.2.2.1, cq14]; done), rfl⟩)
                      · have hr0 : ¬ r = 0 := fun z => cq13 ((lgc_eq _ _).mpr z)
                        have hk4 : k4 < 40 := by rcases Nat.lt_or_ge k4 40 with h | h; (exact h); (rw [show 40 - k4 = 0 by omega, euT, decide_eq_true_eq] at ht; exact absurd ht hr0)
                        refine g_lload C dX12_odds_154 9 rfl ?_
                        refine g_lload C dX12_odds_156 10 rfl ?_
                        refine g_lrem C dX12_odds_158 (hr0) ?_
                        refine g_lstore C (lv' := [(15, .long (g - g / r * r)), (0, .ref m0), (1, .int (nI pj)), (2, .int (nI tj)), (3, .int (nI nj)), (4, .int what), (5, .int (bc (T.2.2.1 pj))), (6, .int (nI 1)), (7, .long xx), (9, .long yy), (11, .long g), (13, .long r)]) dX12_odds_159 (by decide) rfl ?_
                        refine g_lload C dX12_odds_161 11 rfl ?_
                        refine g_lstore C (lv' := [(11, .long r), (15, .long (g - g / r * r)), (0, .ref m0), (1, .int (nI pj)), (2, .int (nI tj)), (3, .int (nI nj)), (4, .int what), (5, .int (bc (T.2.2.1 pj))), (6, .int (nI 1)), (7, .long xx), (9, .long yy), (13, .long r)]) dX12_odds_163 (by decide) rfl ?_
                        refine g_lload C dX12_odds_165 1 rfl ?_
                        refine g_lstore C (lv' := [(13, .long (g - g / r * r)), (11, .long r), (15, .long (g - g / r * r)), (0, .ref m0), (1, .int (nI pj)), (2, .int (nI tj)), (3, .int (nI nj)), (4, .int what), (5, .int (bc (T.2.2.1 pj))), (6, .int (nI 1)), (7, .long xx), (9, .long yy)]) dX12_odds_167 (by decide) rfl ?_
                        refine g_goto C 147 dX12_odds_169 (by decide) ?_
                        refine g_sub (lv' := [(0, .ref m0), (1, .int (nI pj)), (2, .int (nI tj)), (3, .int (nI nj)), (4, .int what), (5, .int (bc (T.2.2.1 pj))), (6, .int (nI 1)), (7, .long xx), (9, .long yy), (11, .long r), (13, .long (g - g / r * r))]) [3, 4, 5, 6, 7, 8, 9, 10, 11, 1, 0] rfl ?_
                        exact ihL147xx (k4 + 1) r (g - g / r * r) (by omega) (by omega) (by rw [show 40 - k4 = (40 - (k4 + 1)) + 1 by omega, euT, if_neg hr0] at ht; exact ht) (by rw [← hr, show 40 - k4 = (40 - (k4 + 1)) + 1 by omega, euR, if_neg hr0])
                  refine g_sub (lv' := [(0, .ref m0), (1, .int (nI pj)), (2, .int (nI tj)), (3, .int (nI nj)), (4, .int what), (5, .int (bc (T.2.2.1 pj))), (6, .int (nI 1)), (7, .long xx), (9, .long yy), (11, .long (xx - yy)), (13, .long xx)]) [2, 3, 4, 5, 6, 7, 8, 9, 10, 1, 0] rfl ?_
                  exact L147xx (40 + 1 - 0) 0 (xx - yy) xx (by omega) (by omega) (hok.1) (rfl)
                · refine g_iload C dX12_odds_87 6 rfl ?_
                  refine g_if_eqN C 136 dX12_odds_89 (by decide) (by omega) (fun cq15 => ?_) (fun cq15 => ?_)
                  · exact absurd cq15 (by decide)
                  · refine g_lload C dX12_odds_92 7 rfl ?_
                    refine g_ldc2 C (v := 10) (List.mem_of_getElem? (i := 3) rfl) dX12_odds_94 ?_
                    refine g_iload C dX12_odds_97 5 rfl ?_
                    refine g_i2l C dX12_odds_99 ?_
                    refine g_lmul C dX12_odds_100 ?_
                    refine g_lmul C dX12_odds_101 ?_
                    refine g_lstore C (lv' := [(7, .long (xx * (10 * ((bc (T.2.2.1 pj)).toInt64)))), (0, .ref m0), (1, .int (nI pj)), (2, .int (nI tj)), (3, .int (nI nj)), (4, .int what), (5, .int (bc (T.2.2.1 pj))), (6, .int (nI 1)), (9, .long yy), (11, .int (nI k))]) dX12_odds_102 (by decide) rfl ?_
                    refine g_lload C dX12_odds_104 8 rfl ?_
                    refine g_ldc2 C (v := 10) (List.mem_of_getElem? (i := 3) rfl) dX12_odds_106 ?_
                    refine g_iload C dX12_odds_109 6 rfl ?_
                    refine g_i2l C dX12_odds_111 ?_
                    refine g_lmul C dX12_odds_112 ?_
                    refine g_aload_n C dX12_odds_113 rfl 1 rfl ?_
                    refine g_get C i12 0 rfl rfl 7 (by decide) (List.mem_of_getElem? (i := 4) rfl) rfl rfl dX12_odds_114 ?_
                    refine g_iconst C (nI 2) dX12_odds_117 (by decide) ?_
                    refine g_iconst C (nI 2) dX12_odds_118 (by decide) ?_
                    refine g_iload_n C dX12_odds_119 rfl 2 rfl ?_
                    refine g_imulN C dX12_odds_120 ?_
                    refine g_iaddN C dX12_odds_121 ?_
                    refine g_iconst C (nI 1) dX12_odds_122 (by decide) ?_
                    refine g_iaddN C dX12_odds_123 ?_
                    refine g_iald C 1 rfl (by omega) (by decide) dX12_odds_124 ?_
                    refine g_as (papO_t (by omega) (by omega)) ?_
                    refine g_i2l C dX12_odds_125 ?_
                    refine g_lsub C dX12_odds_126 ?_
                    refine g_lmul C dX12_odds_127 ?_
                    refine g_lstore C (lv' := [(9, .long (yy * ((10 * ((bc (T.2.2.1 pj)).toInt64)) - ((T.2.2.2.1 pj).toInt64)))), (7, .long (xx * (10 * ((bc (T.2.2.1 pj)).toInt64)))), (0, .ref m0), (1, .int (nI pj)), (2, .int (nI tj)), (3, .int (nI nj)), (4, .int what), (5, .int (bc (T.2.2.1 pj))), (6, .int (nI 1)), (11, .int (nI k))]) dX12_odds_128 (by decide) rfl ?_
                    refine g_iincN C (lv' := [(11, .int (nI (k + 1))), (9, .long (yy * ((10 * ((bc (T.2.2.1 pj)).toInt64)) - ((T.2.2.2.1 pj).toInt64)))), (7, .long (xx * (10 * ((bc (T.2.2.1 pj)).toInt64)))), (0, .ref m0), (1, .int (nI pj)), (2, .int (nI tj)), (3, .int (nI nj)), (4, .int what), (5, .int (bc (T.2.2.1 pj))), (6, .int (nI 1))]) dX12_odds_130 9 rfl (by decide) rfl ?_
                    refine g_goto C 81 dX12_odds_133 (by decide) ?_
                    refine g_sub (lv' := [(0, .ref m0), (1, .int (nI pj)), (2, .int (nI tj)), (3, .int (nI nj)), (4, .int what), (5, .int (bc (T.2.2.1 pj))), (6, .int (nI 1)), (7, .long (xx * (10 * ((bc (T.2.2.1 pj)).toInt64)))), (9, .long (yy * ((10 * ((bc (T.2.2.1 pj)).toInt64)) - ((T.2.2.2.1 pj).toInt64)))), (11, .int (nI (k + 1)))]) [3, 4, 5, 6, 7, 8, 9, 2, 1, 0] rfl ?_
                    exact ihL81x (k + 1) (xx * (10 * ((bc (T.2.2.1 pj)).toInt64))) (yy * ((10 * ((bc (T.2.2.1 pj)).toInt64)) - ((T.2.2.2.1 pj).toInt64))) (by omega) (by omega) (by rw [pX, ← hX]) (by rw [pY, ← hY]) (fun w => absurd w hb9)
            refine g_sub (lv' := [(0, .ref m0), (1, .int (nI pj)), (2, .int (nI tj)), (3, .int (nI nj)), (4, .int what), (5, .int (bc (T.2.2.1 pj))), (6, .int (nI 1)), (7, .long 1), (9, .long 1), (11, .int (nI 0))]) [5, 6, 7, 8, 9, 4, 3, 2, 1, 0] rfl ?_
            exact L81x (nj + 1 - 0) 0 1 1 (by omega) (by omega) (rfl) (rfl) (fun _ => rfl)
        · have hno : ¬ odO T.1 p t nq what := fun w => cq4 w.2.2.2.2
          refine g_ldc2 C (v := (-1)) (List.mem_of_getElem? (i := 2) rfl) dX12_odds_38 ?_
          exact g_lret C X dX12_odds_41 (⟨by unfold odS; rw [if_neg hno], rfl⟩)
