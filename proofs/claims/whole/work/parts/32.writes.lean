theorem rgx {x : Nat} (hx : x ≤ 200) (y : Int32) : (y < nI x ∨ 200 < y) ∨ ∃ j : Nat, x ≤ j ∧ j ≤ 200 ∧ y = nI j := by
  rcases rg0 y (N := 200) (by decide) with (h | h) | ⟨j, h, rfl⟩
  · refine Or.inl (Or.inl ?_)
    rw [Int32.lt_iff_toInt_lt] at h ⊢
    rw [nI_toInt (by omega)]
    have h9 : (0 : Int32).toInt = 0 := rfl
    omega
  · exact Or.inl (Or.inr h)
  · by_cases h2 : x ≤ j
    · exact Or.inr ⟨j, h2, h, rfl⟩
    · exact Or.inl (Or.inl (nI_lt (by omega) (by omega)))
theorem cutN_congr {F T X F' T' X' : Nat → Int32} {b : Nat} {w : Int32} : ∀ {c : Nat}, (∀ k, k < c → F (b + k) = F' (b + k) ∧ T (b + k) = T' (b + k) ∧ X (b + k) = X' (b + k)) → cutN F T X b w c = cutN F' T' X' b w c
  | 0, _ => rfl
  | c + 1, h => by
    have h0 := h c (Nat.lt_succ_self c)
    show (if w < F (b + c) then cutN F T X b w c else if T (b + c) < w then cutN F T X b w c else X (b + c)) = (if w < F' (b + c) then cutN F' T' X' b w c else if T' (b + c) < w then cutN F' T' X' b w c else X' (b + c))
    rw [cutN_congr (fun k hk => h k (Nat.lt_succ_of_lt hk)), h0.1, h0.2.1, h0.2.2]
theorem sumM_zero {a : Nat → Nat → Int32} {i : Nat} : ∀ {m : Nat}, (∀ j, j < m → a 18 (201 * i + j) = 0 ∧ a 19 (201 * i + j) = 0) → sumM a i m = 0
  | 0, _ => rfl
  | m + 1, h => by
    show sumM a i m + (a 18 (201 * i + m) + a 19 (201 * i + m)) = 0
    rw [sumM_zero (fun j hj => h j (Nat.lt_succ_of_lt hj)), (h m (Nat.lt_succ_self m)).1, (h m (Nat.lt_succ_self m)).2]
    rfl
theorem inC_iff {a b : Nat → Nat → Int32} {i c j : Nat} (h15 : b 15 (8 * c + i) = a 15 (8 * c + i)) (h12 : b 12 c = a 12 c) (h13 : b 13 c = a 13 c) : inC b i c j ↔ inC a i c j := by
  unfold inC
  rw [h15, h12, h13]
/-- courses meet in a week -/
theorem meetC_in {a : Nat → Nat → Int32} {i j c x y z x' y' : Nat} (hx : a 12 j = nI x) (hy : a 13 j = nI y) (hx' : a 12 c = nI x') (hy' : a 13 c = nI y') (hy2 : y ≤ 200) (hy2' : y' ≤ 200) (hxy : x ≤ y) (hxy' : x' ≤ y') (h0 : meetC a i j c = 0) (h1 : x ≤ z) (h2 : z ≤ y) : ¬ inC a i c z := by
  intro h
  obtain ⟨g1, g2, g3⟩ := h
  unfold meetC at h0
  rw [if_neg g1] at h0
  rw [hx'] at g2
  rw [hy'] at g3
  have k2 := (nI_leI (by omega) (by omega)).mp g2
  have k3 := (nI_leI (by omega) (by omega)).mp g3
  rw [hx, hy, hx', hy', if_neg (fun h => by have := (nI_ltI (by omega) (by omega)).mp h; omega), if_neg (fun h => by have := (nI_ltI (by omega) (by omega)).mp h; omega)] at h0
  exact absurd h0 (by decide)
theorem meetC_ex {a : Nat → Nat → Int32} {i j c x y x' y' : Nat} (hx : a 12 j = nI x) (hy : a 13 j = nI y) (hx' : a 12 c = nI x') (hy' : a 13 c = nI y') (hy2 : y ≤ 200) (hy2' : y' ≤ 200) (hxy : x ≤ y) (hxy' : x' ≤ y') (h0 : ¬ meetC a i j c = 0) : ∃ z, x ≤ z ∧ z ≤ y ∧ inC a i c z := by
  unfold meetC at h0
  by_cases g1 : a 15 (8 * c + i) = 0
  · rw [if_pos g1] at h0; exact absurd rfl h0
  · rw [if_neg g1] at h0
    by_cases g2 : a 13 j < a 12 c
    · rw [if_pos g2] at h0; exact absurd rfl h0
    · rw [if_neg g2] at h0
      by_cases g3 : a 13 c < a 12 j
      · rw [if_pos g3] at h0; exact absurd rfl h0
      · rw [hy, hx', nI_ltI (by omega) (by omega)] at g2
        rw [hy', hx, nI_ltI (by omega) (by omega)] at g3
        refine ⟨max x x', by omega, by omega, g1, ?_, ?_⟩
        · rw [hx']; exact nI_le (by omega) (by omega)
        · rw [hy']; exact nI_le (by omega) (by omega)
theorem meets_none {a : Nat → Nat → Int32} {i j : Nat} : ∀ {m : Nat}, meetsN a i j m = 0 → ∀ c, c < m → meetC a i j c = 0
  | 0, _, c, hc => absurd hc (Nat.not_lt_zero c)
  | m + 1, h, c, hc => by
    by_cases h0 : meetsN a i j m = 0
    · rw [meetsN_0 h0] at h
      rcases Nat.lt_succ_iff_lt_or_eq.mp hc with h8 | h8
      · exact meets_none h0 c h8
      · subst h8; exact h
    · rw [meetsN_1 h0] at h
      exact absurd h (by decide)
theorem meets_some {a : Nat → Nat → Int32} {i j : Nat} : ∀ {m : Nat}, ¬ meetsN a i j m = 0 → ∃ c, c < m ∧ ¬ meetC a i j c = 0
  | 0, h => absurd rfl h
  | m + 1, h => by
    by_cases h0 : meetsN a i j m = 0
    · rw [meetsN_0 h0] at h; exact ⟨m, Nat.lt_succ_self m, h⟩
    · obtain ⟨c, h1, h2⟩ := meets_some h0
      exact ⟨c, Nat.lt_succ_of_lt h1, h2⟩
theorem fillR_in {g : Nat → Int32} {x i j : Nat} {h : Int32} (h1 : x ≤ j) (h2 : j < i) : fillR g x i h j = h := if_pos ⟨h1, h2⟩
theorem fillR_out {g : Nat → Int32} {x i j : Nat} {h : Int32} (h1 : ¬ (x ≤ j ∧ j < i)) : fillR g x i h j = g j := if_neg h1
theorem RW_new {t nc n s : Nat} {a : Nat → Nat → Int32} {w : Int32} (hz : RZ a n) (hnc : nc ≤ 10) (hs1 : 1 ≤ s) (hs8 : s ≤ 100000) (h1 : a 1 n = nI s) (h2 : a 2 n = w) : RW t nc a n (va_up (va_up (fun _ => 0) 0 (nI s)) 1 w) (fun _ _ => 0) := by
  obtain ⟨z1, z2, z3, z4, z5⟩ := hz
  have hs : sumM a n 201 = 0 := sumM_zero (fun j hj => ⟨(z4 j hj).1, (z4 j hj).2.1⟩)
  refine ⟨⟨s, hs1, hs8, rfl, h1⟩, h2.symm, ⟨0, Nat.zero_le _, rfl, z1, fun j hj => rfl⟩, fun j hj => ⟨0, Nat.zero_le _, rfl⟩, ?_, ?_, ?_, fun j hj => ⟨(z4 j hj).1.symm, (z4 j hj).2.1.symm⟩, fun j _ hj => ⟨(z4 j hj).1, (z4 j hj).2.1⟩, fun j _ hj => (z4 j hj).2.2.1, fun j hj => Or.inr ⟨(z4 j hj).2.2.2.1, rfl⟩, fun j hj => (z4 j hj).2.2.2.2.symm, fun j hj => ⟨fun c hc hin => absurd (z5 c (by omega)) hin.1, fun _ => rfl⟩⟩
  · rw [z2]; rfl
  · rw [z3]; rfl
  · rw [hs]; rfl
set_option maxHeartbeats 2000000 in
theorem sim_notice (l : Launch) (hst : l.stackTraces = false) (G : Gx) (q mq : Nat → Nat) (o : Nat) (g : Nat → Int64) (w : va_W) (f : Nat → Int32) (a : Nat → Nat → Int32) (hS : SR G q w f a) (p0 : Int32) (p1 : Int32) (p2 : Int32) (p3 : Int32) : SIM l G q mq o yL_notice wsL_notice yX3_notice wsX3_notice [.int p0, .int p1, .int p2, .int p3] w g f a false := by
  have hS9 := hS
  obtain ⟨n, nc, t, fl, fd, k, wd, wf, wa, cd, cf, rfl, R⟩ := hS
  obtain ⟨⟨hn, hnc, ht, e0, e10, e16, e17, e9, hp9⟩, Rk, RWs, RZs, RCs, R15⟩ := R
  rcases rgt p0 (n := n) (by omega) with hx | ⟨i, hi, rfl⟩
  · exact sim_x hS9 (by decide) (h_notice_x1 l G _ (q 0) p0 p1 p2 p3 o g _ (by decide) (by decide) ⟨0, 2, _, _, rfl, rfl, rfl⟩ (c_X2_notice_0 l hst G q n nc t fl fd k wd wf wa cd cf hn p0 hx p1 p2 p3)) (c_X3_notice_0 l G mq f a n e0 hn p0 hx p1 p2 p3) (by decide)
  rcases rg0 p1 (N := 200) (by decide) with hy | ⟨x, hx2, rfl⟩
  · exact sim_x hS9 (by decide) (h_notice_x2 l G _ (q 0) (nI i) p1 p2 p3 o g _ (by decide) (by decide) ⟨0, 2, _, _, rfl, rfl, rfl⟩ (c_X2_notice_2 l hst G q n nc t fl fd k wd wf wa cd cf hn i hi p1 p2 p3 (Or.inl hy))) (c_X3_notice_2 l G mq f a n e0 hn i hi p1 p2 p3 (Or.inl hy)) (by decide)
  have x0 : (0 : Int32) ≤ nI x ∧ nI x ≤ 200 := ⟨nI_0le (by omega), nI_le (b := 200) hx2 (by decide)⟩
  rcases rgx hx2 p2 with hy | ⟨y, hxy, hy2, rfl⟩
  · exact sim_x hS9 (by decide) (h_notice_x2 l G _ (q 0) (nI i) (nI x) p2 p3 o g _ (by decide) (by decide) ⟨0, 2, _, _, rfl, rfl, rfl⟩ (c_X2_notice_2 l hst G q n nc t fl fd k wd wf wa cd cf hn i hi (nI x) p2 p3 (Or.inr (Or.inl ⟨x0, hy⟩)))) (c_X3_notice_2 l G mq f a n e0 hn i hi (nI x) p2 p3 (Or.inr (Or.inl ⟨x0, hy⟩))) (by decide)
  have y0 : (0 : Int32) ≤ nI x ∧ nI x ≤ 200 ∧ nI x ≤ nI y ∧ nI y ≤ 200 := ⟨x0.1, x0.2, nI_le hxy (by omega), nI_le (b := 200) hy2 (by decide)⟩
  rcases rg0 p3 (N := 40) (by decide) with hy | ⟨h, hh, rfl⟩
  · exact sim_x hS9 (by decide) (h_notice_x2 l G _ (q 0) (nI i) (nI x) (nI y) p3 o g _ (by decide) (by decide) ⟨0, 2, _, _, rfl, rfl, rfl⟩ (c_X2_notice_2 l hst G q n nc t fl fd k wd wf wa cd cf hn i hi (nI x) (nI y) p3 (Or.inr (Or.inr ⟨y0, hy⟩)))) (c_X3_notice_2 l G mq f a n e0 hn i hi (nI x) (nI y) p3 (Or.inr (Or.inr ⟨y0, hy⟩))) (by decide)
  have g1 : (0 : Int32) ≤ nI h := nI_0le (by omega)
  have g2 : nI h ≤ 40 := nI_le (b := 40) hh (by decide)
  have RWi := RWs i hi
  obtain ⟨hpay, hch, ⟨cn, hcn, e8, e3, hcut⟩, hcb, h9, h11, h10, h45, hz, h20, h21, h22, h3⟩ := RWi
  by_cases hz9 : x < t + 2 ∨ cn = 30
  · exact sim_x hS9 (by decide) (h_notice_x3 l G _ (q 0) (nI i) (nI x) (nI y) (nI h) o g _ (by decide) (by decide) ⟨0, 2, _, _, rfl, rfl, rfl⟩ (c_X2_notice_3 l hst G q n nc t fl fd k wd wf wa cd cf hn i hi ht cn e8 hcn x y hxy hy2 (nI h) g1 g2 hz9)) (c_X3_notice_3 l G mq f a n e0 hn i hi t e16 ht cn e3 hcn x y hxy hy2 (nI h) g1 g2 hz9) (by decide)
  have hcn3 : cn < 30 := by omega
  have htx : t + 2 ≤ x := by omega
  refine sim_k (h_notice_ok l G _ (q 0) (nI i) (nI x) (nI y) (nI h) o g _ (by decide) (by decide) ⟨0, 2, _, _, rfl, rfl, rfl⟩ _ _ (c_X2_notice_1 l G q n nc t fl fd k wd wf wa cd cf hn i hi ht cn e8 hcn3 x y hxy hy2 (nI h) g1 g2 htx)) (c_X3_notice_1 l G mq f a n e0 hn i hi t e16 ht cn e3 hcn3 x y hxy hy2 (nI h) g1 g2 htx) (by decide) rfl rfl (fun _ => ⟨n, nc, t, fl, fd, k, wd, _, _, cd, cf, rfl, ⟨hn, hnc, ht, e0, e10, e16, e17, e9, hp9⟩, Rk, ?_, ?_, RCs, R15⟩)
  · refine RelW (fun z hz8 hzi => ?_) ?_
    · obtain ⟨hpay, hch, ⟨cz, hcz, e8z, e3z, hcut⟩, hcb, h9, h11, h10, h45, hz, h20, h21, h22, h3⟩ := RWs z hz8
      refine ⟨hpay, hch, ⟨cz, hcz, e8z, (pk_un (f := a 3) (k := i) (j := z) hzi).trans e3z, fun j hj => (hcut j hj).trans (cutN_congr (fun u hu => ⟨(pk_un (f := a 4) (k := 30 * i + cn) (j := 30 * z + u) (by omega)).symm, (pk_un (f := a 5) (k := 30 * i + cn) (j := 30 * z + u) (by omega)).symm, (pk_un (f := a 6) (k := 30 * i + cn) (j := 30 * z + u) (by omega)).symm⟩))⟩, hcb, h9, h11, h10.trans (sumM_congr (fun _ _ => ⟨rfl, rfl⟩)), h45, hz, h20, h21, h22, h3⟩
    · refine ⟨hpay, hch, ⟨cn + 1, hcn3, (congrArg (· + 1) e8).trans (nI_1 cn), ((pk_us (f := a 3) (k := i)).trans (congrArg (· + 1) e3)).trans (nI_1 cn), fun j hj => ?_⟩, fun j hj => ?_, h9, h11, h10.trans (sumM_congr (fun _ _ => ⟨rfl, rfl⟩)), h45, hz, fun j hjt hj => ?_, h21, h22, h3⟩
      · have E4 : (upd (a 4) (30 * i + cn) (nI x)) (30 * i + cn) = nI x := pk_us
        have E5 : (upd (a 5) (30 * i + cn) (nI y)) (30 * i + cn) = nI y := pk_us
        have E6 : (upd (a 6) (30 * i + cn) (nI h)) (30 * i + cn) = nI h := pk_us
        have EC : cutN (upd (a 4) (30 * i + cn) (nI x)) (upd (a 5) (30 * i + cn) (nI y)) (upd (a 6) (30 * i + cn) (nI h)) (30 * i) (nI j) cn = wa i 2 j := ((hcut j hj).trans (cutN_congr (fun u hu => ⟨(pk_un (f := a 4) (k := 30 * i + cn) (j := 30 * i + u) (by omega)).symm, (pk_un (f := a 5) (k := 30 * i + cn) (j := 30 * i + u) (by omega)).symm, (pk_un (f := a 6) (k := 30 * i + cn) (j := 30 * i + u) (by omega)).symm⟩))).symm
        show fillR (wa i 2) x (y + 1) (nI h) j = cutN (upd (a 4) (30 * i + cn) (nI x)) (upd (a 5) (30 * i + cn) (nI y)) (upd (a 6) (30 * i + cn) (nI h)) (30 * i) (nI j) (cn + 1)
        by_cases q1 : j < x
        · rw [cutN_a (by rw [E4]; exact nI_lt q1 (by omega)), EC, fillR_out (by omega)]
        · have q2 : ¬ nI j < upd (a 4) (30 * i + cn) (nI x) (30 * i + cn) := by rw [E4]; exact i_nlt (nI_le (by omega) (by omega))
          by_cases q3 : y < j
          · rw [cutN_b q2 (by rw [E5]; exact nI_lt q3 (by omega)), EC, fillR_out (by omega)]
          · rw [cutN_c q2 (by rw [E5]; exact i_nlt (nI_le (by omega) (by omega))), E6, fillR_in (by omega) (by omega)]
      · by_cases q1 : x ≤ j ∧ j < y + 1
        · exact ⟨h, hh, fillR_in q1.1 q1.2⟩
        · obtain ⟨u, u1, u2⟩ := hcb j hj
          exact ⟨u, u1, (fillR_out (g := wa i 2) q1).trans u2⟩
      · exact (h20 j hjt hj).trans (fillR_out (g := wa i 2) (by omega)).symm
  · intro z hz1 hz8
    obtain ⟨z1, z2, z3, z4, z5⟩ := RZs z hz1 hz8
    exact ⟨(pk_un (f := a 3) (k := i) (j := z) (by omega)).trans z1, z2, z3, z4, z5⟩

set_option maxHeartbeats 2000000 in
theorem sim_addCourse (l : Launch) (hst : l.stackTraces = false) (G : Gx) (q mq : Nat → Nat) (o : Nat) (g : Nat → Int64) (w : va_W) (f : Nat → Int32) (a : Nat → Nat → Int32) (hS : SR G q w f a) (p0 : Int32) (p1 : Int32) (p2 : Int32) (p3 : Int32) : SIM l G q mq o yL_addCourse wsL_addCourse yX3_addCourse wsX3_addCourse [.int p0, .int p1, .int p2, .int p3] w g f a false := by
  have hS9 := hS
  obtain ⟨n, nc, t, fl, fd, k, wd, wf, wa, cd, cf, rfl, R⟩ := hS
  obtain ⟨⟨hn, hnc, ht, e0, e10, e16, e17, e9, hp9⟩, Rk, RWs, RZs, RCs, R15⟩ := R
  rcases rg1 p0 (N := 8) (by decide) (by decide) with hy | ⟨s, hs1, hs8, rfl⟩
  · exact sim_x hS9 (by decide) (h_addCourse_x1 l G _ (q 0) p0 p1 p2 p3 o g _ (by decide) (by decide) ⟨0, 2, _, _, rfl, rfl, rfl⟩ (c_X2_addCourse_2 l hst G q n nc t fl fd k wd wf wa cd cf p0 p1 p2 p3 (Or.inl hy))) (c_X3_addCourse_2 l G mq f a p0 p1 p2 p3 (Or.inl hy)) (by decide)
  have s0 : (1 : Int32) ≤ nI s ∧ nI s ≤ 8 := ⟨nI_1le hs1 (by omega), nI_le (b := 8) hs8 (by decide)⟩
  rcases rg0 p1 (N := 200) (by decide) with hy | ⟨x, hx2, rfl⟩
  · exact sim_x hS9 (by decide) (h_addCourse_x1 l G _ (q 0) (nI s) p1 p2 p3 o g _ (by decide) (by decide) ⟨0, 2, _, _, rfl, rfl, rfl⟩ (c_X2_addCourse_2 l hst G q n nc t fl fd k wd wf wa cd cf (nI s) p1 p2 p3 (Or.inr (Or.inl ⟨s0, hy⟩)))) (c_X3_addCourse_2 l G mq f a (nI s) p1 p2 p3 (Or.inr (Or.inl ⟨s0, hy⟩))) (by decide)
  have x0 : (1 : Int32) ≤ nI s ∧ nI s ≤ 8 ∧ 0 ≤ nI x ∧ nI x ≤ 200 := ⟨s0.1, s0.2, nI_0le (by omega), nI_le (b := 200) hx2 (by decide)⟩
  rcases rgx hx2 p2 with hy | ⟨y, hxy, hy2, rfl⟩
  · exact sim_x hS9 (by decide) (h_addCourse_x1 l G _ (q 0) (nI s) (nI x) p2 p3 o g _ (by decide) (by decide) ⟨0, 2, _, _, rfl, rfl, rfl⟩ (c_X2_addCourse_2 l hst G q n nc t fl fd k wd wf wa cd cf (nI s) (nI x) p2 p3 (Or.inr (Or.inr (Or.inl ⟨x0, hy⟩))))) (c_X3_addCourse_2 l G mq f a (nI s) (nI x) p2 p3 (Or.inr (Or.inr (Or.inl ⟨x0, hy⟩)))) (by decide)
  have y0 : (1 : Int32) ≤ nI s ∧ nI s ≤ 8 ∧ 0 ≤ nI x ∧ nI x ≤ 200 ∧ nI x ≤ nI y ∧ nI y ≤ 200 := ⟨x0.1, x0.2.1, x0.2.2.1, x0.2.2.2, nI_le hxy (by omega), nI_le (b := 200) hy2 (by decide)⟩
  rcases rg1 p3 (N := 40) (by decide) (by decide) with hy | ⟨h, hh1, hh, rfl⟩
  · exact sim_x hS9 (by decide) (h_addCourse_x1 l G _ (q 0) (nI s) (nI x) (nI y) p3 o g _ (by decide) (by decide) ⟨0, 2, _, _, rfl, rfl, rfl⟩ (c_X2_addCourse_2 l hst G q n nc t fl fd k wd wf wa cd cf (nI s) (nI x) (nI y) p3 (Or.inr (Or.inr (Or.inr ⟨y0, hy⟩))))) (c_X3_addCourse_2 l G mq f a (nI s) (nI x) (nI y) p3 (Or.inr (Or.inr (Or.inr ⟨y0, hy⟩)))) (by decide)
  have g1 : (1 : Int32) ≤ nI h := nI_1le hh1 (by omega)
  have g2 : nI h ≤ 40 := nI_le (b := 40) hh (by decide)
  have w0 : (1 : Int32) ≤ nI s ∧ nI s ≤ 8 ∧ 0 ≤ nI x ∧ nI x ≤ 200 ∧ nI x ≤ nI y ∧ nI y ≤ 200 ∧ 1 ≤ nI h ∧ nI h ≤ 40 := ⟨y0.1, y0.2.1, y0.2.2.1, y0.2.2.2.1, y0.2.2.2.2.1, y0.2.2.2.2.2, g1, g2⟩
  by_cases hz9 : nc = 10
  · exact sim_x hS9 (by decide) (h_addCourse_x2 l G _ (q 0) (nI s) (nI x) (nI y) (nI h) o g _ (by decide) (by decide) ⟨0, 2, _, _, rfl, rfl, rfl⟩ (c_X2_addCourse_3 l hst G q n nc t fl fd k wd wf wa cd cf hz9 (nI s) (nI x) (nI y) (nI h) w0)) (c_X3_addCourse_3 l G mq f a (by rw [e10, hz9]; rfl) (nI s) (nI x) (nI y) (nI h) w0) (by decide)
  have hnc9 : nc < 10 := by omega
  refine sim_k (h_addCourse_ok l G _ (q 0) (nI s) (nI x) (nI y) (nI h) o g _ (by decide) (by decide) ⟨0, 2, _, _, rfl, rfl, rfl⟩ _ _ (c_X2_addCourse_1 l G q n nc t fl fd k wd wf wa cd cf hnc9 (nI s) s0.1 s0.2 x y hxy hy2 (nI h) g1 g2)) (c_X3_addCourse_1 l G mq f a nc e10 hnc9 (nI s) s0.1 s0.2 x y hxy hy2 (nI h) g1 g2) (by decide) rfl rfl (fun _ => ⟨n, nc + 1, t, fl, fd, k, wd, wf, wa, _, _, rfl, ⟨hn, hnc9, ht, e0, (congrArg (· + 1) e10).trans (nI_1 nc), e16, e17, e9, hp9⟩, Rk, fun z hz8 => ?_, RZs, fun c hc => ?_, fun c hc => R15 c (by omega)⟩)
  · obtain ⟨hpay, hch, ⟨cz, hcz, e8z, e3z, hcut⟩, hcb, h9, h11, h10, h45, hz, h20, h21, h22, h3⟩ := RWs z hz8
    refine ⟨hpay, hch, ⟨cz, hcz, e8z, e3z, hcut⟩, hcb, h9, h11, h10.trans (sumM_congr (fun _ _ => ⟨rfl, rfl⟩)), h45, hz, h20, h21, h22, fun j hj => ⟨fun c hc hin => ?_, fun hno => (h3 j hj).2 (fun c hc hin => hno c (by omega) ((inC_iff (a := a) (c := c) (b := (va_up (va_up (va_up (va_up a 11 (upd (a 11) nc (nI s))) 12 (upd (a 12) nc (nI x))) 13 (upd (a 13) nc (nI y))) 14 (upd (a 14) nc (nI h)))) rfl (pk_un (f := a 12) (k := nc) (j := c) (Nat.ne_of_lt hc)) (pk_un (f := a 13) (k := nc) (j := c) (Nat.ne_of_lt hc))).mpr hin))⟩⟩
    by_cases hcn9 : c = nc
    · subst hcn9; exact absurd (R15 c (Nat.le_refl c) hnc9 z (by omega)) hin.1
    · exact ((h3 j hj).1 c (by omega) ((inC_iff (a := a) (b := (va_up (va_up (va_up (va_up a 11 (upd (a 11) nc (nI s))) 12 (upd (a 12) nc (nI x))) 13 (upd (a 13) nc (nI y))) 14 (upd (a 14) nc (nI h)))) rfl (pk_un (f := a 12) hcn9) (pk_un (f := a 13) hcn9)).mp hin)).trans (pk_un (f := a 14) hcn9).symm
  · by_cases hcn9 : c = nc
    · subst hcn9
      rw [va_up_self]
      exact ⟨(pk_us (f := a 12)).symm, (pk_us (f := a 13)).symm, (pk_us (f := a 14)).symm, (pk_us (f := a 11)).symm, ⟨x, y, hxy, hy2, pk_us (f := a 12), pk_us (f := a 13)⟩, ⟨h, hh1, hh, pk_us (f := a 14)⟩, ⟨s, hs8, pk_us (f := a 11)⟩⟩
    · rw [va_up_ne _ _ hcn9]
      obtain ⟨c1, c2, c3, c4, ⟨u, v, c5, c6, c7, c8⟩, ⟨u2, c9, c10, c11⟩, ⟨u3, c12, c13⟩⟩ := RCs c (by omega)
      exact ⟨c1.trans (pk_un (f := a 12) hcn9).symm, c2.trans (pk_un (f := a 13) hcn9).symm, c3.trans (pk_un (f := a 14) hcn9).symm, c4.trans (pk_un (f := a 11) hcn9).symm, ⟨u, v, c5, c6, (pk_un (f := a 12) hcn9).trans c7, (pk_un (f := a 13) hcn9).trans c8⟩, ⟨u2, c9, c10, (pk_un (f := a 14) hcn9).trans c11⟩, ⟨u3, c12, (pk_un (f := a 11) hcn9).trans c13⟩⟩

set_option maxHeartbeats 2000000 in
theorem sim_add (l : Launch) (hst : l.stackTraces = false) (G : Gx) (q mq : Nat → Nat) (o : Nat) (g : Nat → Int64) (w : va_W) (f : Nat → Int32) (a : Nat → Nat → Int32) (hS : SR G q w f a) (p0 : Int32) (p1 : Int32) (hp : p1 = 0 ∨ p1 = 1) : SIM l G q mq o yL_add wsL_add yX3_add wsX3_add [.int p0, .int p1] w g f a false := by
  have hS9 := hS
  obtain ⟨n, nc, t, fl, fd, k, wd, wf, wa, cd, cf, rfl, R⟩ := hS
  obtain ⟨⟨hn, hnc, ht, e0, e10, e16, e17, e9, hp9⟩, Rk, RWs, RZs, RCs, R15⟩ := R
  rcases rg1 p0 (N := 100000) (by decide) (by decide) with hy | ⟨s, hs1, hs8, rfl⟩
  · exact sim_x hS9 (by decide) (h_add_x1 l G _ (q 0) p0 p1 o g _ (by decide) (by decide) ⟨0, 2, _, _, rfl, rfl, rfl⟩ (c_X2_add_2 l hst G q n nc t fl fd k wd wf wa cd cf p0 p1 hy)) (c_X3_add_2 l G mq f a p0 p1 hy) (by decide)
  have s0 : (1 : Int32) ≤ nI s ∧ nI s ≤ 100000 := ⟨nI_1le hs1 (by omega), nI_le (b := 100000) hs8 (by decide)⟩
  by_cases hz9 : n = 8
  · exact sim_x hS9 (by decide) (h_add_x2 l G _ (q 0) (nI s) p1 o g _ (by decide) (by decide) ⟨0, 2, _, _, rfl, rfl, rfl⟩ (c_X2_add_3 l hst G q n nc t fl fd k wd wf wa cd cf hz9 (nI s) p1 s0.1 s0.2)) (c_X3_add_3 l G mq f a (by rw [e0, hz9]; rfl) (nI s) p1 s0.1 s0.2) (by decide)
  have hn9 : n < 8 := by omega
  refine sim_k (h_add_ok l G _ (q 0) (nI s) p1 o g _ (by decide) (by decide) ⟨0, 2, _, _, rfl, rfl, rfl⟩ _ _ (c_X2_add_1 l G q n nc t fl fd k wd wf wa cd cf hn9 (nI s) p1 s0.1 s0.2 hp)) (c_X3_add_1 l G mq f a n e0 hn hn9 (nI s) p1 s0.1 s0.2 hp) (by decide) rfl rfl (fun _ => ⟨n + 1, nc, t, fl, fd, k, _, _, _, cd, cf, rfl, ⟨hn9, hnc, ht, (congrArg (· + 1) e0).trans (nI_1 n), e10, e16, e17, e9, hp9⟩, Rk, RelW (fun z hz8 hzi => ?_) ?_, fun z hz => RZs z (by omega), RCs, R15⟩)
  · obtain ⟨hpay, hch, ⟨cn, hcn, e8, e3, hcut⟩, hcb, h9, h11, h10, h45, hz, h20, h21, h22, h3⟩ := RWs z (by omega)
    obtain ⟨pp, pp1, pp2, pp3, pp4⟩ := hpay
    exact ⟨⟨pp, pp1, pp2, pp3, (pk_un (f := a 1) hzi).trans pp4⟩, hch.trans (pk_un (f := a 2) hzi).symm, ⟨cn, hcn, e8, e3, hcut⟩, hcb, h9, h11, h10.trans (sumM_congr (fun _ _ => ⟨rfl, rfl⟩)), h45, hz, h20, h21, h22, h3⟩
  · exact RW_new (RZs n (Nat.le_refl n) hn9) hnc hs1 hs8 (pk_us (f := a 1)) (pk_us (f := a 2))

set_option maxHeartbeats 2000000 in
theorem sim_enrol (l : Launch) (hst : l.stackTraces = false) (G : Gx) (q mq : Nat → Nat) (o : Nat) (g : Nat → Int64) (w : va_W) (f : Nat → Int32) (a : Nat → Nat → Int32) (hS : SR G q w f a) (p0 : Int32) (p1 : Int32) : SIM l G q mq o yL_enrol wsL_enrol yX3_enrol wsX3_enrol [.int p0, .int p1] w g f a false := by
  have hS9 := hS
  obtain ⟨n, nc, t, fl, fd, k, wd, wf, wa, cd, cf, rfl, R⟩ := hS
  obtain ⟨⟨hn, hnc, ht, e0, e10, e16, e17, e9, hp9⟩, Rk, RWs, RZs, RCs, R15⟩ := R
  rcases rgt p0 (n := n) (by omega) with hx | ⟨i, hi, rfl⟩
  · exact sim_x hS9 (by decide) (h_enrol_x1 l G _ (q 0) p0 p1 o g _ (by decide) (by decide) ⟨0, 2, _, _, rfl, rfl, rfl⟩ (c_X2_enrol_0 l hst G q n nc t fl fd k wd wf wa cd cf hn p0 hx p1)) (c_X3_enrol_0 l G mq f a n e0 hn p0 hx p1) (by decide)
  rcases rgt p1 (n := nc) (by omega) with hx | ⟨j, hj, rfl⟩
  · exact sim_x hS9 (by decide) (h_enrol_x1 l G _ (q 0) (nI i) p1 o g _ (by decide) (by decide) ⟨0, 2, _, _, rfl, rfl, rfl⟩ (c_X2_enrol_00 l hst G q n nc t fl fd k wd wf wa cd cf hn i hi hnc p1 hx)) (c_X3_enrol_00 l G mq f a n e0 hn i hi nc e10 hnc p1 hx) (by decide)
  have RCj := RCs j hj
  obtain ⟨c1, c2, c3, c4, ⟨x, y, hxy, hy2, hx, hy⟩, ⟨hh, hh1, hh2, hh3⟩, ⟨z, hz8, hz9⟩⟩ := RCj
  have RWi := RWs i hi
  obtain ⟨hpay, hch, ⟨cn, hcn, e8, e3, hcut⟩, hcb, h9, h11, h10, h45, hz, h20, h21, h22, h3⟩ := RWi
  have b0 : cf j 0 = nI x := c1.trans hx
  have b1 : cf j 1 = nI y := c2.trans hy
  have b3 : cf j 3 = nI z := c4.trans hz9
  rcases Nat.eq_zero_or_pos z with q0 | q0
  · subst q0
    exact sim_x hS9 (by decide) (h_enrol_x2 l G _ (q 0) (nI i) (nI j) o g _ (by decide) (by decide) ⟨0, 2, _, _, rfl, rfl, rfl⟩ (c_X2_enrol_2 l hst G q n nc t fl fd k wd wf wa cd cf hn i hi hnc j hj x y b0 b1 hxy hy2 (Or.inl (by rw [b3]; decide)))) (c_X3_enrol_2 l G mq f a n e0 hn i hi nc e10 hnc t e16 ht j hj (Or.inl hz9)) (by decide)
  have q1 : (0 : Int32) < cf j 3 := by rw [b3]; exact nI_lt (a := 0) q0 (by omega)
  have q2 : ¬ a 11 j = 0 := by rw [hz9]; exact fun h => absurd ((nI_eq (b := 0) (by omega) (by decide)).mp h) (by omega)
  have q6 : ∀ c, c < nc → ∃ x y : Nat, x ≤ y ∧ y ≤ 200 ∧ a 12 c = nI x ∧ a 13 c = nI y := fun c hc => (RCs c hc).2.2.2.2.1
  by_cases q3 : y < t
  · have q4 : nI y < nI t := nI_lt q3 (by omega)
    rcases meetsN_01 (a := a) (i := i) (j := j) nc with q5 | q5
    · exact sim_x hS9 (by decide) (h_enrol_x2 l G _ (q 0) (nI i) (nI j) o g _ (by decide) (by decide) ⟨0, 2, _, _, rfl, rfl, rfl⟩ (c_X2_enrol_2 l hst G q n nc t fl fd k wd wf wa cd cf hn i hi hnc j hj x y b0 b1 hxy hy2 (Or.inr (Or.inl ⟨q1, by rw [b1]; exact q4⟩)))) (c_X3_enrol_2 l G mq f a n e0 hn i hi nc e10 hnc t e16 ht j hj (Or.inr (Or.inr ⟨q2, q5, by rw [hy]; exact q4⟩))) (by decide)
    · exact sim_x hS9 (by decide) (h_enrol_x2 l G _ (q 0) (nI i) (nI j) o g _ (by decide) (by decide) ⟨0, 2, _, _, rfl, rfl, rfl⟩ (c_X2_enrol_2 l hst G q n nc t fl fd k wd wf wa cd cf hn i hi hnc j hj x y b0 b1 hxy hy2 (Or.inr (Or.inl ⟨q1, by rw [b1]; exact q4⟩)))) (c_X3_enrol_2 l G mq f a n e0 hn i hi nc e10 hnc t e16 ht j hj (Or.inr (Or.inl ⟨q2, q5⟩))) (by decide)
  have q4 : nI t ≤ nI y := nI_le (by omega) (by omega)
  rcases meetsN_01 (a := a) (i := i) (j := j) nc with q5 | q5
  case inr =>
    obtain ⟨c, hc, hm⟩ := meets_some (a := a) (i := i) (j := j) (m := nc) (by rw [q5]; decide)
    obtain ⟨x9, y9, k1, k2, k3, k4⟩ := q6 c hc
    obtain ⟨u, u1, u2, u3⟩ := meetC_ex hx hy k3 k4 hy2 k2 hxy k1 hm
    have u4 : ¬ wa i 3 u ≤ 0 := by rw [(h3 u (by omega)).1 c hc u3]; exact (RCs c hc).pos
    exact sim_x hS9 (by decide) (h_enrol_x2 l G _ (q 0) (nI i) (nI j) o g _ (by decide) (by decide) ⟨0, 2, _, _, rfl, rfl, rfl⟩ (c_X2_enrol_2 l hst G q n nc t fl fd k wd wf wa cd cf hn i hi hnc j hj x y b0 b1 hxy hy2 (Or.inr (Or.inr ⟨q1, by rw [b1]; exact q4, u, u1, u2, u4⟩)))) (c_X3_enrol_2 l G mq f a n e0 hn i hi nc e10 hnc t e16 ht j hj (Or.inr (Or.inl ⟨q2, q5⟩))) (by decide)
  have q7 : ∀ c, c < nc → ∀ u, x ≤ u → u ≤ y → ¬ inC a i c u := fun c hc u u1 u2 => by
    obtain ⟨x9, y9, k1, k2, k3, k4⟩ := q6 c hc
    exact meetC_in hx hy k3 k4 hy2 k2 hxy k1 (meets_none q5 c hc) u1 u2
  have q8 : ∀ u, x ≤ u → u ≤ y → wa i 3 u ≤ 0 := fun u u1 u2 => by
    rw [(h3 u (by omega)).2 (fun c hc => q7 c hc u u1 u2)]; decide
  refine sim_k (h_enrol_ok l G _ (q 0) (nI i) (nI j) o g _ (by decide) (by decide) ⟨0, 2, _, _, rfl, rfl, rfl⟩ _ _ (c_X2_enrol_1 l G q n nc t fl fd k wd wf wa cd cf hn i hi hnc j hj x y b0 b1 hxy hy2 q1 (by rw [b1]; exact q4) q8)) (c_X3_enrol_1 l G mq f a n e0 hn i hi nc e10 hnc t e16 ht j hj q2 q5 (by rw [hy]; exact i_nlt q4)) (by decide) (congrArg (· - 1) c4) rfl (fun _ => ⟨n, nc, t, fl, fd, k, wd, wf, _, cd, _, rfl, ⟨hn, hnc, ht, e0, e10, e16, e17, e9, hp9⟩, Rk, RelA (fun s hs hsi => ?_) ?_, fun s hs hs8 => ?_, fun c hc => ?_, fun c hc hc10 s hs => ?_⟩)
  · obtain ⟨hpay, hch, ⟨cz, hcz, e8z, e3z, hcut⟩, hcb, h9, h11, h10, h45, hz, h20, h21, h22, h3⟩ := RWs s hs
    exact ⟨hpay, hch, ⟨cz, hcz, e8z, e3z, hcut⟩, hcb, h9, h11, h10.trans (sumM_congr (fun _ _ => ⟨rfl, rfl⟩)), h45, hz, h20, h21, h22, fun u hu => ⟨fun c hc hin => (h3 u hu).1 c hc ((inC_iff (a := a) (b := (va_up (va_up a 15 (upd (a 15) (8 * j + i) 1)) 11 (upd (a 11) j (a 11 j - 1)))) (pk_un (f := a 15) (k := 8 * j + i) (j := 8 * c + s) (by omega)) rfl rfl).mp hin), fun hno => (h3 u hu).2 (fun c hc hin => hno c hc ((inC_iff (a := a) (b := (va_up (va_up a 15 (upd (a 15) (8 * j + i) 1)) 11 (upd (a 11) j (a 11 j - 1)))) (pk_un (f := a 15) (k := 8 * j + i) (j := 8 * c + s) (by omega)) rfl rfl).mpr hin))⟩⟩
  · refine ⟨hpay, hch, ⟨cn, hcn, e8, e3, hcut⟩, hcb, h9, h11, h10.trans (sumM_congr (fun _ _ => ⟨rfl, rfl⟩)), h45, hz, h20, h21, h22, fun u hu => ⟨fun c hc hin => ?_, fun hno => ?_⟩⟩
    · by_cases hcj : c = j
      · subst hcj
        obtain ⟨-, i2, i3⟩ := hin
        have j2 := (nI_leI (by omega) (by omega)).mp (show nI x ≤ nI u by rw [← hx]; exact i2)
        have j3 := (nI_leI (by omega) (by omega)).mp (show nI u ≤ nI y by rw [← hy]; exact i3)
        exact (fillR_in (g := wa i 3) j2 (by omega)).trans c3
      · have hin9 : inC a i c u := (inC_iff (a := a) (b := (va_up (va_up a 15 (upd (a 15) (8 * j + i) 1)) 11 (upd (a 11) j (a 11 j - 1)))) (pk_un (f := a 15) (k := 8 * j + i) (j := 8 * c + i) (by omega)) rfl rfl).mp hin
        exact (fillR_out (g := wa i 3) (fun h9 => q7 c hc u h9.1 (by omega) hin9)).trans ((h3 u hu).1 c hc hin9)
    · have nj : ¬ (x ≤ u ∧ u < y + 1) := fun h9 => hno j hj ⟨fun h8 => absurd ((pk_us (f := a 15) (k := 8 * j + i) (x := 1)).symm.trans h8) (by decide), (by show a 12 j ≤ nI u; rw [hx]; exact nI_le h9.1 (by omega)), (by show nI u ≤ a 13 j; rw [hy]; exact nI_le (by omega) (by omega))⟩
      refine (fillR_out (g := wa i 3) nj).trans ((h3 u hu).2 (fun c hc hin => ?_))
      by_cases hcj : c = j
      · subst hcj
        obtain ⟨-, i2, i3⟩ := hin
        rw [hx] at i2
        rw [hy] at i3
        have j2 := (nI_leI (by omega) (by omega)).mp i2
        have j3 := (nI_leI (by omega) (by omega)).mp i3
        exact nj ⟨j2, by omega⟩
      · exact hno c hc ((inC_iff (a := a) (b := (va_up (va_up a 15 (upd (a 15) (8 * j + i) 1)) 11 (upd (a 11) j (a 11 j - 1)))) (pk_un (f := a 15) (k := 8 * j + i) (j := 8 * c + i) (by omega)) rfl rfl).mpr hin)
  · obtain ⟨z1, z2, z3, z4, z5⟩ := RZs s hs hs8
    exact ⟨z1, z2, z3, z4, fun c hc => (pk_un (f := a 15) (k := 8 * j + i) (j := 8 * c + s) (by omega)).trans (z5 c hc)⟩
  · by_cases hcj : c = j
    · subst hcj
      rw [va_up_self]
      exact ⟨c1, c2, c3, (congrArg (· - 1) c4).trans (pk_us (f := a 11)).symm, ⟨x, y, hxy, hy2, hx, hy⟩, ⟨hh, hh1, hh2, hh3⟩, ⟨z - 1, by omega, (pk_us (f := a 11)).trans ((congrArg (· - 1) hz9).trans (pk_sub (b := 1) q0))⟩⟩
    · rw [va_up_ne _ _ hcj]
      obtain ⟨d1, d2, d3, d4, d5, d6, ⟨u3, d7, d8⟩⟩ := RCs c hc
      exact ⟨d1, d2, d3, d4.trans (pk_un (f := a 11) hcj).symm, d5, d6, ⟨u3, d7, (pk_un (f := a 11) hcj).trans d8⟩⟩
  · exact (pk_un (f := a 15) (k := 8 * j + i) (j := 8 * c + s) (by omega)).trans (R15 c hc hc10 s hs)
