/-! who fits where: free sets and given sets -/
def bVf (w nx : Nat → Int32) (g : Nat) : Nat → Int32
  | 0 => nx g
  | k + 1 => if tb (nI g) k = 0 then imax (bVf w nx g k) (w k + nx (g ||| 2 ^ k)) else bVf w nx g k
def bUf (w nx : Nat → Int32) (s : Nat) : Nat → Int32
  | 0 => nx s
  | k + 1 => imax (bUf w nx s k) (if tb (nI s) k = 0 then nI 0 else w k + nx (s - 2 ^ k))
def RV (kn f : Nat → Int32) (m n : Nat) : Nat → Nat → Int32
  | 0, _ => nI 0
  | i + 1, g => bVf (fun q => tiOn f q (kn (n - (i + 1))) 7) (RV kn f m n i) g m
def RU (kn f : Nat → Int32) (m n : Nat) : Nat → Nat → Int32
  | 0, _ => nI 0
  | i + 1, s => bUf (fun q => tiOn f q (kn (n - (i + 1))) 7) (RU kn f m n i) s m
theorem bVf_cg {w w' nx nx' : Nat → Int32} {g : Nat} (hg : g < 64) (hx : ∀ s, s < 64 → nx s = nx' s) : ∀ k, k ≤ 6 → (∀ q, q < k → w q = w' q) → bVf w nx g k = bVf w' nx' g k
  | 0, _, _ => hx g hg
  | k + 1, hk, hw => by rw [bVf, bVf, bVf_cg hg hx k (by omega) (fun q hq => hw q (by omega)), hw k (by omega), hx _ (or64 hg (by omega))]
theorem bstF_b (ga mo : Nat → Int32) (p g : Nat) : ∀ k, bstF ga mo p g k = bVf (fun q => ga (p * 6 + q)) (fun s => mo ((p + 1) * 64 + s)) g k
  | 0 => rfl
  | k + 1 => by rw [bstF, bVf, bstF_b ga mo p g k]; rfl
theorem moRow_hi (ga mo : Nat → Int32) (p m : Nat) {i : Nat} (h : (p + 1) * 64 ≤ i) : ∀ g, g ≤ 64 → moRow ga mo p m g i = mo i
  | 0, _ => rfl
  | g + 1, hg => by rw [moRow, pk_un (by omega), moRow_hi ga mo p m h g (by omega)]
theorem moRow_at (ga mo : Nat → Int32) (p m : Nat) (hm : m ≤ 6) {j : Nat} : ∀ g, g ≤ 64 → j < g → moRow ga mo p m g (p * 64 + j) = bVf (fun q => ga (p * 6 + q)) (fun s => mo ((p + 1) * 64 + s)) j m
  | 0, _, h => absurd h (Nat.not_lt_zero j)
  | g + 1, hg, h => by
    rw [moRow]
    by_cases e : j = g
    · subst e
      rw [pk_us, bstF_b]
      exact bVf_cg (by omega) (fun s hs => moRow_hi ga mo p m (by omega) j (by omega)) m hm (fun _ _ => rfl)
    · rw [pk_un (by omega), moRow_at ga mo p m hm g (by omega) (by omega)]
theorem gaRow_hi (ga kn f : Nat → Int32) (p : Nat) {i : Nat} (h : (p + 1) * 6 ≤ i) : ∀ q, q ≤ 6 → gaRow ga kn f p q i = ga i
  | 0, _ => rfl
  | q + 1, hq => by rw [gaRow, pk_un (by omega), gaRow_hi ga kn f p h q (by omega)]
theorem gaRow_at (ga kn f : Nat → Int32) (p : Nat) {j : Nat} : ∀ q, q ≤ 6 → j < q → gaRow ga kn f p q (p * 6 + j) = tiOn f j (kn p) 7
  | 0, _, h => absurd h (Nat.not_lt_zero j)
  | q + 1, hq, h => by
    rw [gaRow]
    by_cases e : j = q
    · subst e; rw [pk_us]
    · rw [pk_un (by omega), gaRow_at ga kn f p q (by omega) (by omega)]
theorem filA_in {mo : Nat → Int32} {x : Int32} {n i : Nat} (h : i < n) : filA mo x n i = x := if_pos h
theorem wgh_ok (kn f : Nat → Int32) {m n : Nat} (hm : m ≤ 6) (hn : n ≤ 6) (ga mo : Nat → Int32) : ∀ i, i ≤ n → (∀ j, j ≤ i → ∀ g, g < 64 → (wghS kn f m n ga mo i).2 ((n - j) * 64 + g) = RV kn f m n j g) ∧ (∀ p, n - i ≤ p → p < n → ∀ q, q < 6 → (wghS kn f m n ga mo i).1 (p * 6 + q) = tiOn f q (kn p) 7)
  | 0, _ => ⟨fun j hj g hg => by
      rw [show j = 0 by omega, wghS, RV]
      exact filA_in (by omega), fun p h1 h2 => absurd h2 (by omega)⟩
  | i + 1, hi => by
    obtain ⟨h1, h2⟩ := wgh_ok kn f hm hn ga mo i (by omega)
    constructor
    · intro j hj g hg
      rw [wghS]
      show moRow _ _ _ m 64 _ = _
      by_cases e : j = i + 1
      · subst e
        rw [moRow_at _ _ _ m hm 64 (Nat.le_refl 64) hg, RV]
        refine bVf_cg hg (fun s hs => ?_) m hm (fun q hq => gaRow_at _ kn f _ 6 (Nat.le_refl 6) (by omega))
        show (wghS kn f m n ga mo i).2 _ = _
        rw [show n - (i + 1) + 1 = n - i by omega]
        exact h1 i (Nat.le_refl i) s hs
      · rw [moRow_hi _ _ _ m (by omega) 64 (Nat.le_refl 64)]
        exact h1 j (by omega) g hg
    · intro p hp1 hp2 q hq
      rw [wghS]
      show gaRow _ kn f _ 6 _ = _
      by_cases e : p = n - (i + 1)
      · subst e
        exact gaRow_at _ kn f _ 6 (Nat.le_refl 6) hq
      · rw [gaRow_hi _ kn f _ (by omega) 6 (Nat.le_refl 6)]
        exact h2 p (by omega) hp2 q hq
theorem bUf_cg {w w' nx nx' : Nat → Int32} {s : Nat} (hs : s < 64) (hx : ∀ s, s < 64 → nx s = nx' s) : ∀ k, (∀ q, q < k → w q = w' q) → bUf w nx s k = bUf w' nx' s k
  | 0, _ => hx s hs
  | k + 1, hw => by rw [bUf, bUf, bUf_cg hs hx k (fun q hq => hw q (by omega)), hw k (by omega), hx (s - 2 ^ k) (Nat.lt_of_le_of_lt (Nat.sub_le _ _) hs)]
theorem wkB_b (kn f fi : Nat → Int32) (p s : Nat) : ∀ k, k ≤ 6 → wkB kn f fi p s k = bUf (fun q => tiOn f q (kn p) 7) (fun s => fi (64 * (p + 1) + s)) s k
  | 0, _ => rfl
  | k + 1, hk => by
    rw [wkB, bUf, wkB_b kn f fi p s k (by omega)]
    by_cases hb : tb (nI s) k = 0
    · rw [wkC_0 hb, if_pos hb]
    · have := tb_2p (by omega) hb
      rw [wkC_1 hb, if_neg hb, show 64 * (p + 1) + s - 2 ^ k = 64 * (p + 1) + (s - 2 ^ k) by omega]
theorem wkRow_hi (kn f fi : Nat → Int32) (p m : Nat) {i : Nat} (h : 64 * (p + 1) ≤ i) : ∀ s, s ≤ 64 → wkRow kn f fi p m s i = fi i
  | 0, _ => rfl
  | s + 1, hs => by rw [wkRow, pk_un (by omega), wkRow_hi kn f fi p m h s (by omega)]
theorem wkRow_at (kn f fi : Nat → Int32) (p m : Nat) (hm : m ≤ 6) {j : Nat} : ∀ s, s ≤ 64 → j < s → wkRow kn f fi p m s (64 * p + j) = bUf (fun q => tiOn f q (kn p) 7) (fun s => fi (64 * (p + 1) + s)) j m
  | 0, _, h => absurd h (Nat.not_lt_zero j)
  | s + 1, hs, h => by
    rw [wkRow]
    by_cases e : j = s
    · subst e
      rw [pk_us, wkB_b _ _ _ _ _ m hm]
      exact bUf_cg (by omega) (fun s hs => wkRow_hi kn f fi p m (by omega) j (by omega)) m (fun _ _ => rfl)
    · rw [pk_un (by omega), wkRow_at kn f fi p m hm s (by omega) (by omega)]
theorem zrN_in (fi : Nat → Int32) (n : Nat) {s : Nat} : ∀ k, s < k → zrN fi n k (64 * n + s) = nI 0
  | 0, h => absurd h (Nat.not_lt_zero s)
  | k + 1, h => by
    rw [zrN]
    by_cases e : s = k
    · subst e; rw [pk_us]
    · rw [pk_un (by omega), zrN_in fi n k (by omega)]
theorem wk_ok (kn f : Nat → Int32) {m n : Nat} (hm : m ≤ 6) (fi : Nat → Int32) : ∀ i, i ≤ n → ∀ j, j ≤ i → ∀ s, s < 64 → wkS kn f m n fi i (64 * (n - j) + s) = RU kn f m n j s
  | 0, _, j, hj, s, hs => by
    rw [show j = 0 by omega, wkS, RU]
    exact zrN_in fi n 64 hs
  | i + 1, hi, j, hj, s, hs => by
    rw [wkS]
    by_cases e : j = i + 1
    · subst e
      rw [wkRow_at kn f _ _ m hm 64 (Nat.le_refl 64) hs, RU]
      refine bUf_cg hs (fun s hs => ?_) m (fun _ _ => rfl)
      show wkS kn f m n fi i _ = _
      rw [show n - (i + 1) + 1 = n - i by omega]
      exact wk_ok kn f hm fi i (by omega) i (Nat.le_refl i) s hs
    · rw [wkRow_hi kn f _ _ m (by omega) 64 (Nat.le_refl 64)]
      exact wk_ok kn f hm fi i (by omega) j (by omega) s hs
def fbB (m s k : Nat) : Bool := if s < 2 ^ m ∧ k < m then (if tb (nI s) k = 0 then decide (¬ tb (nI (2 ^ m - 1 - s)) k = 0) else decide (tb (nI (2 ^ m - 1 - s)) k = 0) && decide ((2 ^ m - 1 - s) ||| 2 ^ k = 2 ^ m - 1 - (s - 2 ^ k))) else true
theorem fbB_all : ∀ m, m < 7 → ∀ s, s < 64 → ∀ k, k < 6 → fbB m s k = true := by decide +kernel
theorem fullb (m : Nat) (hm : m < 7) (s : Nat) (h64 : s < 64) (hs : s < 2 ^ m) (k : Nat) (hk : k < 6) (hkm : k < m) : (tb (nI (2 ^ m - 1 - s)) k = 0 ↔ ¬ tb (nI s) k = 0) ∧ (¬ tb (nI s) k = 0 → (2 ^ m - 1 - s) ||| 2 ^ k = 2 ^ m - 1 - (s - 2 ^ k)) := by
  have h := fbB_all m hm s h64 k hk
  unfold fbB at h
  rw [if_pos ⟨hs, hkm⟩] at h
  by_cases hb : tb (nI s) k = 0
  · rw [if_pos hb, decide_eq_true_eq] at h
    exact ⟨⟨fun z => absurd z h, fun z => absurd hb z⟩, fun z => absurd hb z⟩
  · rw [if_neg hb, Bool.and_eq_true, decide_eq_true_eq, decide_eq_true_eq] at h
    exact ⟨⟨fun _ => hb, fun _ => h.1⟩, fun _ => h.2⟩
theorem imax_nn {a b : Int32} (h : ¬ a < 0) : ¬ imax a b < 0 := by
  unfold imax
  by_cases h2 : a < b
  · rw [if_pos h2]
    intro h3
    exact h (Int32.lt_trans h2 h3)
  · rw [if_neg h2]; exact h
theorem imax_0 {a : Int32} (h : ¬ a < 0) : imax a (nI 0) = a := if_neg h
theorem bUV {w nu nv : Nat → Int32} {m s : Nat} (hm : m ≤ 6) (hs : s < 2 ^ m) (he : ∀ s, s < 2 ^ m → nu s = nv (2 ^ m - 1 - s) ∧ ¬ nu s < 0) : ∀ k, k ≤ m → bUf w nu s k = bVf w nv (2 ^ m - 1 - s) k ∧ ¬ bUf w nu s k < 0
  | 0, _ => he s hs
  | k + 1, hk => by
    obtain ⟨h1, h2⟩ := bUV (w := w) hm hs he k (by omega)
    have h64 := p2_64 hm
    obtain ⟨f1, f2⟩ := fullb m (by omega) s (by omega) hs k (by omega) (by omega)
    refine ⟨?_, by rw [bUf]; exact imax_nn h2⟩
    rw [bUf, bVf]
    by_cases hb : tb (nI s) k = 0
    · rw [if_pos hb, if_neg (fun z => f1.mp z hb), imax_0 h2, h1]
    · rw [if_neg hb, if_pos (f1.mpr hb), f2 hb, h1, (he (s - 2 ^ k) (Nat.lt_of_le_of_lt (Nat.sub_le _ _) hs)).1]
theorem RUV (kn f : Nat → Int32) {m : Nat} (n : Nat) (hm : m ≤ 6) : ∀ i s, s < 2 ^ m → RU kn f m n i s = RV kn f m n i (2 ^ m - 1 - s) ∧ ¬ RU kn f m n i s < 0
  | 0, _, _ => ⟨rfl, by rw [RU]; decide⟩
  | i + 1, s, hs => by
    rw [RU, RV]
    exact bUV hm hs (RUV kn f n hm i) m (Nat.le_refl m)
theorem dnS_f {kn f fi ga mo : Nat → Int32} {m p s : Nat} (hm : m ≤ 6) (hs : s < 2 ^ m) (hA : ∀ s, s < 2 ^ m → fi (64 * (p + 1) + s) = mo ((p + 1) * 64 + (2 ^ m - 1 - s))) (hA0 : fi (64 * p + s) = mo (p * 64 + (2 ^ m - 1 - s))) (hB : ∀ q, q < 6 → ga (p * 6 + q) = tiOn f q (kn p) 7) : ∀ i, i ≤ m → dnS kn f fi m p s i = fbL ga mo p (2 ^ m - 1 - s) (mo (p * 64 + (2 ^ m - 1 - s))) i (m - i)
  | 0, _ => rfl
  | i + 1, hi => by
    have ih := dnS_f hm hs hA hA0 hB i (by omega)
    have h64 := p2_64 hm
    obtain ⟨f1, f2⟩ := fullb m (by omega) s (by omega) hs (m - (i + 1)) (by omega) (by omega)
    rw [dnS, fbL, show m - (i + 1) + 1 = m - i by omega, ← ih]
    by_cases hb : tb (nI s) (m - (i + 1)) = 0
    · rw [if_pos hb, if_neg (fun z => f1.mp z hb)]
    · rw [if_neg hb, if_pos (f1.mpr hb)]
      have h2 := tb_2p (by omega) hb
      have e : mW ga mo p (2 ^ m - 1 - s) (m - (i + 1)) = tiOn f (m - (i + 1)) (kn p) 7 + fi (64 * (p + 1) + s - 2 ^ (m - (i + 1))) := by
        unfold mW
        rw [hB _ (by omega), f2 hb, ← hA (s - 2 ^ (m - (i + 1))) (Nat.lt_of_le_of_lt (Nat.sub_le _ _) hs), show 64 * (p + 1) + s - 2 ^ (m - (i + 1)) = 64 * (p + 1) + (s - 2 ^ (m - (i + 1))) by omega]
      rw [e, hA0]
theorem dnP_f {kn f fi ga mo : Nat → Int32} {m n : Nat} (hm : m ≤ 6) (hA : ∀ p, p ≤ n → ∀ s, s < 2 ^ m → fi (64 * p + s) = mo (p * 64 + (2 ^ m - 1 - s))) (hB : ∀ p, p < n → ∀ q, q < 6 → ga (p * 6 + q) = tiOn f q (kn p) 7) : ∀ p, p ≤ n → (dnP kn f fi m p).1 < 2 ^ m ∧ (pofS ga mo m p).1 = 2 ^ m - 1 - (dnP kn f fi m p).1 ∧ (dnP kn f fi m p).2 = (pofS ga mo m p).2
  | 0, _ => by
    have := Nat.two_pow_pos m
    refine ⟨?_, ?_, rfl⟩
    · rw [dnP]; show 2 ^ m - 1 < 2 ^ m; omega
    · rw [dnP, pofS]; show 0 = 2 ^ m - 1 - (2 ^ m - 1); omega
  | p + 1, hp => by
    obtain ⟨h1, h2, -⟩ := dnP_f hm hA hB p (by omega)
    have h64 := p2_64 hm
    rw [dnP, pofS, h2]
    generalize (dnP kn f fi m p).1 = s at h1
    have e : dnB kn f fi m p s = fsB ga mo m p (2 ^ m - 1 - s) := by
      unfold dnB fsB
      rw [hA (p + 1) hp s h1, hA p (by omega) s h1]
      by_cases hc : mo ((p + 1) * 64 + (2 ^ m - 1 - s)) = mo (p * 64 + (2 ^ m - 1 - s))
      · rw [if_pos hc, if_pos hc]
      · rw [if_neg hc, if_neg hc, dnS_f hm h1 (hA (p + 1) hp) (hA p (by omega) s h1) (hB p (by omega)) m (Nat.le_refl m), Nat.sub_self]
    rw [← e]
    rcases dnB_in kn f fi m p s with hd | ⟨j, hj, hb, hd⟩
    · rw [hd, if_pos rfl, if_pos (by decide)]
      exact ⟨h1, rfl, rfl⟩
    · have hne : ¬ nI j = (-9) := fun z => absurd (show nI j < 0 by rw [z]; decide) (nI_pos (by omega))
      rw [hd, if_neg hne, if_neg (nI_pos (by omega)), nI_clamp (by omega)]
      have h2p := tb_2p (by omega) hb
      exact ⟨Nat.lt_of_le_of_lt (Nat.sub_le _ _) h1, (fullb m (by omega) s (by omega) h1 j (by omega) hj).2 hb, rfl⟩
theorem fit_eq {T : TS} (hn : T.1 ≤ 6) (hm : T.2.1 ≤ 6) (f fi ga mo : Nat → Int32) (p : Int32) : fitR T f fi p = fitS T f ga mo p := by
  have h64 := p2_64 hm
  have h1p : 1 ≤ 2 ^ T.2.1 := Nat.one_le_two_pow
  have hA : ∀ p, p ≤ T.1 → ∀ s, s < 2 ^ T.2.1 → wkS T.2.2.1 f T.2.1 T.1 fi T.1 (64 * p + s) = (wghS T.2.2.1 f T.2.1 T.1 ga mo T.1).2 (p * 64 + (2 ^ T.2.1 - 1 - s)) := by
    intro p hp s hs
    have a := wk_ok T.2.2.1 f hm fi T.1 (Nat.le_refl _) (T.1 - p) (by omega) s (by omega)
    have b := (wgh_ok T.2.2.1 f hm hn ga mo T.1 (Nat.le_refl _)).1 (T.1 - p) (by omega) (2 ^ T.2.1 - 1 - s) (by omega)
    rw [show T.1 - (T.1 - p) = p by omega] at a b
    rw [a, b]
    exact (RUV T.2.2.1 f T.1 hm (T.1 - p) s hs).1
  unfold fitR fitS
  by_cases h : p = (-1)
  · rw [if_pos h, if_pos h]
    have := hA 0 (Nat.zero_le _) (2 ^ T.2.1 - 1) (by omega)
    rw [show 64 * 0 + (2 ^ T.2.1 - 1) = 2 ^ T.2.1 - 1 by omega, show 0 * 64 + (2 ^ T.2.1 - 1 - (2 ^ T.2.1 - 1)) = 0 by omega] at this
    exact this
  · rw [if_neg h, if_neg h]
    by_cases h2 : inR p T.1
    · rw [if_pos h2, if_pos h2]
      obtain ⟨j, hj, rfl⟩ := inR_of (by omega) h2
      rw [nI_clamp (by omega)]
      exact (dnP_f hm hA (fun p hp q hq => (wgh_ok T.2.2.1 f hm hn ga mo T.1 (Nat.le_refl _)).2 p (by omega) hp q hq) (j + 1) (by omega)).2.2
    · rw [if_neg h2, if_neg h2]
