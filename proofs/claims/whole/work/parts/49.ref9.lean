/-! the reference: nights ahead -/
theorem b_thOn (f : Nat → Int32) (q : Nat) : ∀ (k i : Nat), i < 32 → k ≤ 7 → bt (thOn f q k) i = (decide (i < k) && decide (¬ f (q * 7 + i) ≤ 0))
  | 0, i, hi, _ => by rw [thOn, b_nI 0 hi]; simp
  | k + 1, i, hi, hk => by
    have ih := b_thOn f q k i hi (by omega)
    rw [thOn]
    by_cases h : f (q * 7 + k) ≤ 0
    · rw [if_pos h, ih]
      by_cases h2 : i = k
      · subst h2; simp [h]
      · have : decide (i < k + 1) = decide (i < k) := by rw [decide_eq_decide]; omega
        rw [this]
    · rw [if_neg h, b_or, ih, b_p2 hi]
      by_cases h2 : i = k
      · subst h2; rw [decide_eq_true h]; simp
      · have : decide (i < k + 1) = decide (i < k) := by rw [decide_eq_decide]; omega
        rw [this, decide_eq_false h2, Bool.or_false]
theorem thOn_up {u : Nat → Int32} {q t : Nat} {x : Int32} (ht : t < 7) (hx : ¬ x ≤ 0) : thOn (upd u (q * 7 + t) x) q 7 = thOn u q 7 ||| nI (2 ^ t) := by
  refine b_ext (fun i hi => ?_)
  rw [b_or, b_thOn _ _ 7 i hi (by decide), b_thOn _ _ 7 i hi (by decide), b_p2 hi]
  by_cases h : i = t
  · subst h
    rw [pk_us, decide_eq_true hx, decide_eq_true ht]; simp
  · rw [pk_un (by omega), decide_eq_false h, Bool.or_false]
theorem thOn_ne {u : Nat → Int32} {q b t : Nat} {x : Int32} (h : q ≠ b) (ht : t < 7) : thOn (upd u (b * 7 + t) x) q 7 = thOn u q 7 := thOn_cg (fun t2 ht2 => pk_un (by omega)) 7 (by decide)
theorem hr_pos : ∀ i, i < 100 → ¬ imin (nI i + nI 1) (nI 99) ≤ 0 := by decide +kernel
theorem slp_lst {T : TS} {g : Nat → Int32} (h99 : ∀ k, k < 42 → ∃ j, j ≤ 99 ∧ g k = nI j) (hm : T.2.1 ≤ 6) (hn : T.1 ≤ 6) (hbed : ∀ p, p < 6 → g (42 + p) = (-9) ∨ (p < T.1 ∧ ∃ q, q < T.2.1 ∧ g (42 + p) = nI q)) (z nt : Int32) {q : Nat} (hq : q < 6) : ∀ k, k ≤ T.1 → thOn (slpS T.2.2.1 T.2.2.2.1 z nt g k).2 q 7 = thOn g q 7 ||| lstS T.2.2.1 T.2.2.2.1 g z nt (fun _ => nI 0) k q
  | 0, _ => by
    show thOn g q 7 = thOn g q 7 ||| filA (fun _ => nI 0) (nI 0) 6 q
    rw [show filA (fun _ => nI 0) (nI 0) 6 q = nI 0 from if_pos hq, orz]
  | k + 1, hk => by
    have ih := slp_lst h99 hm hn hbed z nt hq k (by omega)
    rcases sayS_9 T.2.2.1 T.2.2.2.1 k z nt with h1 | ⟨t, ht, h1⟩
    · rw [lstS_n (fun w => w.2 (by rw [h1]; decide)), slpS, if_pos (by rw [h1]; decide), ih]
    · have hb := slpS_hi T.2.2.1 T.2.2.2.1 z nt g (i := 42 + k) (by omega) k
      rw [slpS, if_neg (by rw [h1]; exact nI_pos (by omega)), h1, nI_clamp (by omega), hb]
      rcases hbed k (by omega) with h2 | ⟨-, b, hb2, h2⟩
      · rw [lstS_n (fun w => absurd w.1 (by rw [h2]; decide)), h2]
        show thOn (hrS (slpS T.2.2.1 T.2.2.2.1 z nt g k).2 (-9) t) q 7 = _
        rw [hrS_n (by decide)]
        exact ih
      · rw [lstS_y (b := b) (t := t) (by omega) ht h2 h1, h2]
        show thOn (hrS _ (nI b) t) q 7 = _
        rw [hrS_y (by omega)]
        obtain ⟨i, hi, e⟩ := slpS_99 T.2.2.1 T.2.2.2.1 z nt h99 k (b * 7 + t) (by omega)
        by_cases h3 : q = b
        · subst h3
          rw [thOn_up ht (by rw [e]; exact hr_pos i (by omega)), ih, pk_us, Int32.or_assoc]
        · rw [thOn_ne h3 ht, ih, pk_un h3]
theorem lstS_cg (kn ta : Nat → Int32) (z nt : Int32) (e : Nat → Int32) {f g : Nat → Int32} : ∀ k, (∀ p, p < k → g (42 + p) = f (42 + p)) → lstS kn ta g z nt e k = lstS kn ta f z nt e k
  | 0, _ => rfl
  | k + 1, h => by rw [lstS, lstS, h k (by omega), lstS_cg kn ta z nt e k (fun p hp => h p (by omega))]
theorem ngtF_hi (T : TS) (g : Nat → Int32) (z : Int32) {i : Nat} (h : 42 ≤ i) (h2 : i ≠ 49) : ngtF T g z i = g i := by
  unfold ngtF; rw [pk_un h2]; exact slpS_hi _ _ _ _ g h _
theorem ngtF_49 (T : TS) (g : Nat → Int32) (z : Int32) : ngtF T g z 49 = g 49 + nI 1 := by
  unfold ngtF; rw [pk_us, slpS_hi _ _ _ _ g (by decide)]
theorem ngtF_99 (T : TS) {g : Nat → Int32} (z : Int32) (h : ∀ k, k < 42 → ∃ j, j ≤ 99 ∧ g k = nI j) : ∀ k, k < 42 → ∃ j, j ≤ 99 ∧ ngtF T g z k = nI j := by
  intro k hk
  unfold ngtF; rw [pk_un (by omega)]; exact slpS_99 _ _ _ _ h _ k hk
theorem ngtF_th {T : TS} {g : Nat → Int32} (h99 : ∀ k, k < 42 → ∃ j, j ≤ 99 ∧ g k = nI j) (hm : T.2.1 ≤ 6) (hn : T.1 ≤ 6) (hbed : ∀ p, p < 6 → g (42 + p) = (-9) ∨ (p < T.1 ∧ ∃ q, q < T.2.1 ∧ g (42 + p) = nI q)) (z : Int32) {q : Nat} (hq : q < 6) : thOn (ngtF T g z) q 7 = thOn g q 7 ||| lstS T.2.2.1 T.2.2.2.1 g z (g 49) (fun _ => nI 0) T.1 q := by
  rw [← slp_lst h99 hm hn hbed z (g 49) hq T.1 (Nat.le_refl _)]
  exact thOn_cg (fun t ht => by unfold ngtF; rw [pk_un (by omega)]) 7 (by decide)
theorem in21 {n : Int32} : inR n 21 ↔ ¬ n < 0 ∧ ¬ nI 20 < n := by
  refine and_congr_right (fun h0 => not_congr ?_)
  obtain ⟨j, hj, rfl⟩ := nI_of h0
  rw [nI_ltI (by decide) hj, nI_leI (by decide) hj]
  exact Iff.rfl
theorem bk_eq (f g asd : Nat → Int32) : cpA (cpA (nowO f) asd 50) (nowO g) 50 = nowO f := by
  funext k
  unfold cpA
  by_cases h : k < 50
  · rw [if_pos h, if_pos h]
  · rw [if_neg h]
    exact nowO_cg (fun z => absurd z (by omega)) (fun z => absurd z (by omega)) (fun p _ z => absurd z (by omega)) (fun i _ z => absurd z (by omega))

set_option maxHeartbeats 4000000 in
set_option maxRecDepth 100000 in
theorem kX12_inNights (l : Launch) (E : EX) (m0 x0 x1 x2 x3 x4 x5 x6 x7 x8 x9 n und nt : Nat) (tr : Int64) (Q : RS) (T : TS) (f : Nat → Int32) (asd : Nat → Int32) (z nq q : Int32) (hT : TI T) (hn : T.1 ≤ 6) (hm : T.2.1 ≤ 6) (hS : SI T f) : M l E yX12_inNights wsX12_inNights { frames := 3, cells := 0, slots := 0, locals := 75 } 0 0 [.ref m0, .int z, .int nq, .int q] [(m0, oB 12 [.ref x0, .int (nI n), .int (nI Q.1), .int (nI Q.2.2.1), .int Q.2.1, .int Q.2.2.2, .ref x1, .ref x2, .ref x3, .ref x4, .int (nI und), .ref x5, .ref x6, .int (nI nt), .ref x7, .ref x8, .long tr, .ref x9]), (x2, iA E 21 (papO T)), (x3, iA E 50 (nowO f)), (x6, iA E 50 asd)] (is1 (some (.int (inNS T f z nq q))) [(m0, oB 12 [.ref x0, .int (nI n), .int (nI Q.1), .int (nI Q.2.2.1), .int Q.2.1, .int Q.2.2.2, .ref x1, .ref x2, .ref x3, .ref x4, .int (nI und), .ref x5, .ref x6, .int (nI nt), .ref x7, .ref x8, .long tr, .ref x9]), (x2, iA E 21 (papO T)), (x3, iA E 50 (nowO f)), (x6, iA E 50 (if inO T.2.1 z nq q then cpA (nowO f) asd 50 else asd))]) := by
  refine M.ofG (cc := cX12_inNights) (maxL := 5) (ret := (some .int)) (lv := [(0, .ref m0), (1, .int z), (2, .int nq), (3, .int q)]) (own := RX12) (by decide) rfl rfl (Nat.le_of_ble_eq_true rfl) rfl ?_
  intro K C X _
  refine g_iload_n C dX12_inNights_0 rfl 1 rfl ?_
  refine g_i2l C dX12_inNights_1 ?_
  refine g_lconst C 0 dX12_inNights_2 rfl ?_
  refine g_ldc2 C (v := 9999) (List.mem_of_getElem? (i := 1) rfl) dX12_inNights_3 ?_
  refine g_callS C (rest := []) (n := 3) (kX12_in_9999 l E z ) gX12_inNights_X12_in rfl ⟨rfl, rfl⟩ (by decide) (Nat.le_of_ble_eq_true rfl) rfl (by decide +kernel) rfl dX12_inNights_6 [] [0, 1, 2, 3] rfl rfl ?_
  refine g_is1 (ws2 := [(m0, oB 12 [.ref x0, .int (nI n), .int (nI Q.1), .int (nI Q.2.2.1), .int Q.2.1, .int Q.2.2.2, .ref x1, .ref x2, .ref x3, .ref x4, .int (nI und), .ref x5, .ref x6, .int (nI nt), .ref x7, .ref x8, .long tr, .ref x9]), (x2, iA E 21 (papO T)), (x3, iA E 50 (nowO f)), (x6, iA E 50 asd)]) (st2 := [.int (bI (inR z 10000))]) [0, 1, 2, 3] rfl rfl rfl ?_
  refine g_if_eqB C 32 dX12_inNights_9 (by decide) (fun cq1 => ?_) (fun cq1 => ?_)
  · have hno : ¬ inO T.2.1 z nq q := fun w => cq1 w.1
    refine g_iconst C ((-1)) dX12_inNights_32 (by decide) ?_
    exact g_iret C X dX12_inNights_33 (⟨by unfold inNS; rw [if_neg hno], by rw [if_neg hno]⟩)
  · refine g_iload_n C dX12_inNights_12 rfl 2 rfl ?_
    refine g_i2l C dX12_inNights_13 ?_
    refine g_lconst C 0 dX12_inNights_14 rfl ?_
    refine g_ldc2 C (v := 20) (List.mem_of_getElem? (i := 2) rfl) dX12_inNights_15 ?_
    refine g_callS C (rest := []) (n := 3) (kX12_in_20 l E nq ) gX12_inNights_X12_in rfl ⟨rfl, rfl⟩ (by decide) (Nat.le_of_ble_eq_true rfl) rfl (by decide +kernel) rfl dX12_inNights_18 [] [0, 1, 2, 3] rfl rfl ?_
    refine g_is1 (ws2 := [(m0, oB 12 [.ref x0, .int (nI n), .int (nI Q.1), .int (nI Q.2.2.1), .int Q.2.1, .int Q.2.2.2, .ref x1, .ref x2, .ref x3, .ref x4, .int (nI und), .ref x5, .ref x6, .int (nI nt), .ref x7, .ref x8, .long tr, .ref x9]), (x2, iA E 21 (papO T)), (x3, iA E 50 (nowO f)), (x6, iA E 50 asd)]) (st2 := [.int (bI (inR nq 21))]) [0, 1, 2, 3] rfl rfl rfl ?_
    refine g_if_eqB C 32 dX12_inNights_21 (by decide) (fun cq2 => ?_) (fun cq2 => ?_)
    · have hno : ¬ inO T.2.1 z nq q := fun w => cq2 (in21.mpr ⟨w.2.1, w.2.2.1⟩)
      refine g_iconst C ((-1)) dX12_inNights_32 (by decide) ?_
      exact g_iret C X dX12_inNights_33 (⟨by unfold inNS; rw [if_neg hno], by rw [if_neg hno]⟩)
    · refine g_aload_n C dX12_inNights_24 rfl 0 rfl ?_
      refine g_iload_n C dX12_inNights_25 rfl 3 rfl ?_
      refine g_callV C (rest := []) (n := 1) (kX12_isPillow l E m0 x0 x1 x2 x3 x4 x5 x6 x7 x8 x9 n und nt tr Q T q (by omega)) gX12_inNights_X12_isPillow rfl ⟨rfl, rfl⟩ (by decide) (Nat.le_of_ble_eq_true rfl) rfl (by decide +kernel) rfl dX12_inNights_26 0 rfl rfl [0, 1] [2, 3] rfl rfl ?_
      refine g_is1 (ws2 := [(m0, oB 12 [.ref x0, .int (nI n), .int (nI Q.1), .int (nI Q.2.2.1), .int Q.2.1, .int Q.2.2.2, .ref x1, .ref x2, .ref x3, .ref x4, .int (nI und), .ref x5, .ref x6, .int (nI nt), .ref x7, .ref x8, .long tr, .ref x9]), (x2, iA E 21 (papO T)), (x3, iA E 50 (nowO f)), (x6, iA E 50 asd)]) (st2 := [.int (bI (inR q T.2.1))]) [2, 3, 0, 1] rfl rfl rfl ?_
      refine g_if_neB C 34 dX12_inNights_29 (by decide) (fun cq3 => ?_) (fun cq3 => ?_)
      · have hy : inO T.2.1 z nq q := ⟨cq1, (in21.mp cq2).1, (in21.mp cq2).2, cq3⟩
        obtain ⟨zj, hj_zj, rfl⟩ := inR_of (n := 10000) (by decide) cq1
        have hcl_zj : (nI zj).toNatClampNeg = zj := nI_clamp (by omega)
        obtain ⟨qj, hj_qj, rfl⟩ := inR_of (n := T.2.1) (by omega) cq3
        have hcl_qj : (nI qj).toNatClampNeg = qj := nI_clamp (by omega)
        obtain ⟨nj, hj_nj, rfl⟩ := inR_of (n := 21) (by decide) cq2
        have hcl_nj : (nI nj).toNatClampNeg = nj := nI_clamp (by omega)
        refine g_aload_n C dX12_inNights_34 rfl 0 rfl ?_
        refine g_callV C (rest := []) (n := 0) (kX12_asides l E m0 x0 x1 x2 x3 x4 x5 x6 x7 x8 x9 n und nt tr Q f asd ) gX12_inNights_X12_asides rfl ⟨rfl, rfl⟩ (by decide) (Nat.le_of_ble_eq_true rfl) rfl (by decide +kernel) rfl dX12_inNights_35 0 rfl rfl [0, 2, 3] [1] rfl rfl ?_
        refine g_is1 (ws2 := [(m0, oB 12 [.ref x0, .int (nI n), .int (nI Q.1), .int (nI Q.2.2.1), .int Q.2.1, .int Q.2.2.2, .ref x1, .ref x2, .ref x3, .ref x4, .int (nI und), .ref x5, .ref x6, .int (nI nt), .ref x7, .ref x8, .long tr, .ref x9]), (x2, iA E 21 (papO T)), (x3, iA E 50 (nowO f)), (x6, iA E 50 (cpA (nowO f) asd 50))]) (st2 := []) [1, 0, 2, 3] rfl rfl rfl ?_
        refine g_iconst C (nI 0) dX12_inNights_38 (by decide) ?_
        refine g_istore C (lv' := [(4, .int (nI 0)), (0, .ref m0), (1, .int (nI zj)), (2, .int (nI nj)), (3, .int (nI qj))]) dX12_inNights_39 (by decide) rfl ?_
        have L41 : ∀ (zz k : Nat) (g : Nat → Int32), k + zz = nj + 1 → k ≤ nj → (thOn g qj 7 = inS T f zj qj k) → (g 49 = f 49 + nI k) → (∀ p, p < 6 → g (42 + p) = f (42 + p)) → (∀ i, i < 42 → ∃ j, j ≤ 99 ∧ g i = nI j) → G K 0 0 41 [(0, .ref m0), (1, .int (nI zj)), (2, .int (nI nj)), (3, .int (nI qj)), (4, .int (nI k))] [] [(m0, oB 12 [.ref x0, .int (nI n), .int (nI Q.1), .int (nI Q.2.2.1), .int Q.2.1, .int Q.2.2.2, .ref x1, .ref x2, .ref x3, .ref x4, .int (nI und), .ref x5, .ref x6, .int (nI nt), .ref x7, .ref x8, .long tr, .ref x9]), (x2, iA E 21 (papO T)), (x3, iA E 50 (nowO g)), (x6, iA E 50 (cpA (nowO f) asd 50))] := by
          intro zz
          induction zz with
          | zero => intro k g hL41 gL41; exfalso; omega
          | succ zz ihL41 =>
            intro k g hL41 gL41 hgt hg49 hgb hg99
            refine g_iload C dX12_inNights_41 4 rfl ?_
            refine g_iload_n C dX12_inNights_43 rfl 2 rfl ?_
            refine g_icmp_geN C 66 dX12_inNights_44 (by decide) (by omega) (by omega) (fun cq4 => ?_) (fun cq4 => ?_)
            · have hk : k = nj := by omega
              refine g_aload_n C dX12_inNights_66 rfl 0 rfl ?_
              refine g_iload_n C dX12_inNights_67 rfl 3 rfl ?_
              refine g_callV C (rest := []) (n := 1) (kX12_hears l E m0 x0 x1 x2 x3 x4 x5 x6 x7 x8 x9 n und nt tr Q g qj (by omega)) gX12_inNights_X12_hears rfl ⟨rfl, rfl⟩ (by decide) (Nat.le_of_ble_eq_true rfl) rfl (by decide +kernel) rfl dX12_inNights_68 0 rfl rfl [0, 2] [1, 3] rfl rfl ?_
              refine g_is1 (ws2 := [(m0, oB 12 [.ref x0, .int (nI n), .int (nI Q.1), .int (nI Q.2.2.1), .int Q.2.1, .int Q.2.2.2, .ref x1, .ref x2, .ref x3, .ref x4, .int (nI und), .ref x5, .ref x6, .int (nI nt), .ref x7, .ref x8, .long tr, .ref x9]), (x2, iA E 21 (papO T)), (x3, iA E 50 (nowO g)), (x6, iA E 50 (cpA (nowO f) asd 50))]) (st2 := [.int (thOn g qj 7)]) [2, 0, 3, 1] rfl rfl rfl ?_
              refine g_istore C (lv' := [(4, .int (thOn g qj 7)), (0, .ref m0), (1, .int (nI zj)), (2, .int (nI nj)), (3, .int (nI qj))]) dX12_inNights_71 (by decide) rfl ?_
              refine g_aload_n C dX12_inNights_73 rfl 1 rfl ?_
              refine g_callV C (rest := []) (n := 0) (kX12_backs l E m0 x0 x1 x2 x3 x4 x5 x6 x7 x8 x9 n und nt tr Q (nowO g) (cpA (nowO f) asd 50) ) gX12_inNights_X12_backs rfl ⟨rfl, rfl⟩ (by decide) (Nat.le_of_ble_eq_true rfl) rfl (by decide +kernel) rfl dX12_inNights_74 0 rfl rfl [0, 2, 3] [1] rfl rfl ?_
              refine g_is1 (ws2 := [(m0, oB 12 [.ref x0, .int (nI n), .int (nI Q.1), .int (nI Q.2.2.1), .int Q.2.1, .int Q.2.2.2, .ref x1, .ref x2, .ref x3, .ref x4, .int (nI und), .ref x5, .ref x6, .int (nI nt), .ref x7, .ref x8, .long tr, .ref x9]), (x2, iA E 21 (papO T)), (x3, iA E 50 (cpA (cpA (nowO f) asd 50) (nowO g) 50)), (x6, iA E 50 (cpA (nowO f) asd 50))]) (st2 := []) [1, 0, 2, 3] rfl rfl rfl ?_
              refine g_iload C dX12_inNights_77 0 rfl ?_
              exact g_iret C X dX12_inNights_79 (⟨by unfold inNS; rw [if_pos hy, hcl_zj, hcl_qj, hcl_nj, hgt, hk], by rw [if_pos hy, bk_eq]⟩)
            · have hgbed : ∀ p, p < 6 → g (42 + p) = (-9) ∨ (p < T.1 ∧ ∃ q, q < T.2.1 ∧ g (42 + p) = nI q) := fun p hp => by rw [hgb p hp]; exact hS.2.2.1 p hp
              have hg19 : ∃ n, n ≤ 1019 ∧ g 49 = nI n := by obtain ⟨n0, hn0, e0⟩ := hS.2.2.2.2; exact ⟨n0 + k, by omega, by rw [hg49, e0, nI_add]⟩
              refine g_aload_n C dX12_inNights_47 rfl 0 rfl ?_
              refine g_iload_n C dX12_inNights_48 rfl 1 rfl ?_
              refine g_iload C dX12_inNights_49 4 rfl ?_
              refine g_iaddN C dX12_inNights_51 ?_
              refine g_sipush C (nI 10000) dX12_inNights_52 (by decide) ?_
              refine g_iremN C dX12_inNights_55 (by omega) (by omega) (by omega) ?_
              refine g_callV C (rest := []) (n := 1) (kX12_goesBy l E m0 x0 x1 x2 x3 x4 x5 x6 x7 x8 x9 n und nt tr Q T g ((zj + k) % 10000) (hT) (hn) (hm) (hg99) (hgbed) (by omega) (hg19)) gX12_inNights_X12_goesBy rfl ⟨rfl, rfl⟩ (by decide) (Nat.le_of_ble_eq_true rfl) rfl (by decide +kernel) rfl dX12_inNights_56 0 rfl rfl [0, 1, 2] [3] rfl rfl ?_
              refine g_is1 (ws2 := [(m0, oB 12 [.ref x0, .int (nI n), .int (nI Q.1), .int (nI Q.2.2.1), .int Q.2.1, .int Q.2.2.2, .ref x1, .ref x2, .ref x3, .ref x4, .int (nI und), .ref x5, .ref x6, .int (nI nt), .ref x7, .ref x8, .long tr, .ref x9]), (x2, iA E 21 (papO T)), (x3, iA E 50 (nowO (ngtF T g (nI ((zj + k) % 10000))))), (x6, iA E 50 (cpA (nowO f) asd 50))]) (st2 := [.int (nI ((slpS T.2.2.1 T.2.2.2.1 (nI ((zj + k) % 10000)) (g 49) g T.1).1))]) [1, 2, 3, 0] rfl rfl rfl ?_
              refine g_pop C dX12_inNights_59 rfl ?_
              refine g_iincN C (lv' := [(4, .int (nI (k + 1))), (0, .ref m0), (1, .int (nI zj)), (2, .int (nI nj)), (3, .int (nI qj))]) dX12_inNights_60 4 rfl (by decide) rfl ?_
              refine g_goto C 41 dX12_inNights_63 (by decide) ?_
              refine g_sub (lv' := [(0, .ref m0), (1, .int (nI zj)), (2, .int (nI nj)), (3, .int (nI qj)), (4, .int (nI (k + 1)))]) [1, 2, 3, 4, 0] rfl ?_
              exact ihL41 (k + 1) (ngtF T g (nI ((zj + k) % 10000))) (by omega) (by omega) (by rw [ngtF_th hg99 hm hn hgbed _ (by omega), hgt, inS, hg49, lstS_cg _ _ _ _ _ T.1 (fun p hp => hgb p (by omega))]) (by rw [ngtF_49, hg49, Int32.add_assoc]; exact congrArg (fun x => f 49 + x) (nI_add k 1)) (fun p hp => by rw [ngtF_hi T g _ (by omega) (by omega)]; exact hgb p hp) (ngtF_99 T _ hg99)
        refine g_sub (lv' := [(0, .ref m0), (1, .int (nI zj)), (2, .int (nI nj)), (3, .int (nI qj)), (4, .int (nI 0))]) [1, 2, 3, 4, 0] rfl ?_
        exact L41 (nj + 1 - 0) 0 f (by omega) (by omega) (rfl) ((addz _).symm) (fun _ _ => rfl) (hS.1)
      · have hno : ¬ inO T.2.1 z nq q := fun w => cq3 w.2.2.2
        refine g_iconst C ((-1)) dX12_inNights_32 (by decide) ?_
        exact g_iret C X dX12_inNights_33 (⟨by unfold inNS; rw [if_neg hno], by rw [if_neg hno]⟩)
