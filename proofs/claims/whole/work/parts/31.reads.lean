set_option maxHeartbeats 2000000 in
theorem sim_cut (l : Launch) (hst : l.stackTraces = false) (G : Gx) (q mq : Nat → Nat) (o : Nat) (g : Nat → Int64) (w : va_W) (f : Nat → Int32) (a : Nat → Nat → Int32) (hS : SR G q w f a) (p0 : Int32) (p1 : Int32) : SIM l G q mq o yL_cut wsL_cut yX3_cut wsX3_cut [.int p0, .int p1] w g f a false := by
  have hS9 := hS
  obtain ⟨n, nc, t, fl, fd, k, wd, wf, wa, cd, cf, rfl, R⟩ := hS
  obtain ⟨⟨hn, hnc, ht, e0, e10, e16, e17, e9, hp9⟩, Rk, RWs, RZs, RCs, R15⟩ := R
  rcases rgt p0 (n := n) (by omega) with hx | ⟨i, hi, rfl⟩
  · exact sim_x hS9 (by decide) (h_cut_x1 l G _ (q 0) p0 p1 o g _ (by decide) (by decide) ⟨0, 2, _, _, rfl, rfl, rfl⟩ (c_X2_cut_0 l hst G q n nc t fl fd k wd wf wa cd cf hn p0 hx p1)) (c_X3_cut_0 l G mq f a n e0 hn p0 hx p1) (by decide)
  rcases rg0 p1 (N := 200) (by decide) with hy | ⟨j, hj, rfl⟩
  · exact sim_x hS9 (by decide) (h_cut_x2 l G _ (q 0) (nI i) p1 o g _ (by decide) (by decide) ⟨0, 2, _, _, rfl, rfl, rfl⟩ (c_X2_cut_2 l hst G q n nc t fl fd k wd wf wa cd cf hn i hi p1 hy)) (c_X3_cut_2 l G mq f a n e0 hn i hi p1 hy) (by decide)
  have RWi := RWs i hi
  obtain ⟨hpay, hch, ⟨cn, hcn, e8, e3, hcut⟩, hcb, h9, h11, h10, h45, hz, h20, h21, h22, h3⟩ := RWi
  refine sim_k (h_cut_ok l G _ (q 0) (nI i) (nI j) o g _ (by decide) (by decide) ⟨0, 2, _, _, rfl, rfl, rfl⟩ _ _ (c_X2_cut_1 l G q n nc t fl fd k wd wf wa cd cf hn i hi j hj)) (c_X3_cut_1 l G mq f a n e0 hn i hi cn e3 hcn j hj) (by decide) (hcut j (by omega)) rfl (fun _ => hS9.up24 0)

set_option maxHeartbeats 2000000 in
theorem sim_isFilled (l : Launch) (hst : l.stackTraces = false) (G : Gx) (q mq : Nat → Nat) (o : Nat) (g : Nat → Int64) (w : va_W) (f : Nat → Int32) (a : Nat → Nat → Int32) (hS : SR G q w f a) (p0 : Int32) (p1 : Int32) : SIM l G q mq o yL_isFilled wsL_isFilled yX3_isFilled wsX3_isFilled [.int p0, .int p1] w g f a true := by
  have hS9 := hS
  obtain ⟨n, nc, t, fl, fd, k, wd, wf, wa, cd, cf, rfl, R⟩ := hS
  obtain ⟨⟨hn, hnc, ht, e0, e10, e16, e17, e9, hp9⟩, Rk, RWs, RZs, RCs, R15⟩ := R
  rcases rgt p0 (n := n) (by omega) with hx | ⟨i, hi, rfl⟩
  · exact sim_x hS9 (by decide) (h_isFilled_x1 l G _ (q 0) p0 p1 o g _ (by decide) (by decide) ⟨0, 2, _, _, rfl, rfl, rfl⟩ (c_X2_isFilled_0 l hst G q n nc t fl fd k wd wf wa cd cf hn p0 hx p1)) (c_X3_isFilled_0 l G mq f a n e0 hn p0 hx p1) (by decide)
  rcases rg0 p1 (N := 200) (by decide) with hy | ⟨j, hj, rfl⟩
  · exact sim_x hS9 (by decide) (h_isFilled_x2 l G _ (q 0) (nI i) p1 o g _ (by decide) (by decide) ⟨0, 2, _, _, rfl, rfl, rfl⟩ (c_X2_isFilled_2 l hst G q n nc t fl fd k wd wf wa cd cf hn i hi p1 hy)) (c_X3_isFilled_2 l G mq f a n e0 hn i hi p1 hy) (by decide)
  have RWi := RWs i hi
  obtain ⟨hpay, hch, ⟨cn, hcn, e8, e3, hcut⟩, hcb, h9, h11, h10, h45, hz, h20, h21, h22, h3⟩ := RWi
  refine sim_b (h_isFilled_ok l G _ (q 0) (nI i) (nI j) o g _ (by decide) (by decide) ⟨0, 2, _, _, rfl, rfl, rfl⟩ _ _ (c_X2_isFilled_1 l G q n nc t fl fd k wd wf wa cd cf hn i hi j hj)) (c_X3_isFilled_1 l G mq f a n e0 hn i hi cn e3 hcn nc e10 hnc j hj) (by decide) ?_ rfl (fun _ => hS9.up24 0)
  rw [← hcut j (by omega)]
  exact (RWs i hi).fill (fun c hc => (RCs c hc).pos) (by omega) _

set_option maxHeartbeats 2000000 in
theorem sim_paid (l : Launch) (hst : l.stackTraces = false) (G : Gx) (q mq : Nat → Nat) (o : Nat) (g : Nat → Int64) (w : va_W) (f : Nat → Int32) (a : Nat → Nat → Int32) (hS : SR G q w f a) (p0 : Int32) (p1 : Int32) : SIM l G q mq o yL_paid wsL_paid yX3_paid wsX3_paid [.int p0, .int p1] w g f a false := by
  have hS9 := hS
  obtain ⟨n, nc, t, fl, fd, k, wd, wf, wa, cd, cf, rfl, R⟩ := hS
  obtain ⟨⟨hn, hnc, ht, e0, e10, e16, e17, e9, hp9⟩, Rk, RWs, RZs, RCs, R15⟩ := R
  rcases rgt p0 (n := n) (by omega) with hx | ⟨i, hi, rfl⟩
  · exact sim_x hS9 (by decide) (h_paid_x1 l G _ (q 0) p0 p1 o g _ (by decide) (by decide) ⟨0, 2, _, _, rfl, rfl, rfl⟩ (c_X2_paid_0 l hst G q n nc t fl fd k wd wf wa cd cf hn p0 hx p1)) (c_X3_paid_0 l G mq f a n e0 hn p0 hx p1) (by decide)
  rcases rgt p1 (n := t) (by omega) with hy | ⟨j, hj, rfl⟩
  · exact sim_x hS9 (by decide) (h_paid_x2 l G _ (q 0) (nI i) p1 o g _ (by decide) (by decide) ⟨0, 2, _, _, rfl, rfl, rfl⟩ (c_X2_paid_2 l hst G q n nc t fl fd k wd wf wa cd cf hn i hi ht p1 hy)) (c_X3_paid_2 l G mq f a n e0 hn i hi t e16 ht p1 hy) (by decide)
  obtain ⟨hpay, hch, ⟨cn, hcn, e8, e3, hcut⟩, hcb, h9, h11, h10, h45, hz, h20, h21, h22, h3⟩ := RWs i hi
  refine sim_k (h_paid_ok l G _ (q 0) (nI i) (nI j) o g _ (by decide) (by decide) ⟨0, 2, _, _, rfl, rfl, rfl⟩ _ _ (c_X2_paid_1 l G q n nc t fl fd k wd wf wa cd cf hn i hi ht j hj)) (c_X3_paid_1 l G mq f a n e0 hn i hi t e16 ht j hj) (by decide) ((h45 j (by omega)).1) rfl (fun _ => hS9.up24 0)

set_option maxHeartbeats 2000000 in
theorem sim_madeUp (l : Launch) (hst : l.stackTraces = false) (G : Gx) (q mq : Nat → Nat) (o : Nat) (g : Nat → Int64) (w : va_W) (f : Nat → Int32) (a : Nat → Nat → Int32) (hS : SR G q w f a) (p0 : Int32) (p1 : Int32) : SIM l G q mq o yL_madeUp wsL_madeUp yX3_madeUp wsX3_madeUp [.int p0, .int p1] w g f a false := by
  have hS9 := hS
  obtain ⟨n, nc, t, fl, fd, k, wd, wf, wa, cd, cf, rfl, R⟩ := hS
  obtain ⟨⟨hn, hnc, ht, e0, e10, e16, e17, e9, hp9⟩, Rk, RWs, RZs, RCs, R15⟩ := R
  rcases rgt p0 (n := n) (by omega) with hx | ⟨i, hi, rfl⟩
  · exact sim_x hS9 (by decide) (h_madeUp_x1 l G _ (q 0) p0 p1 o g _ (by decide) (by decide) ⟨0, 2, _, _, rfl, rfl, rfl⟩ (c_X2_madeUp_0 l hst G q n nc t fl fd k wd wf wa cd cf hn p0 hx p1)) (c_X3_madeUp_0 l G mq f a n e0 hn p0 hx p1) (by decide)
  rcases rgt p1 (n := t) (by omega) with hy | ⟨j, hj, rfl⟩
  · exact sim_x hS9 (by decide) (h_madeUp_x2 l G _ (q 0) (nI i) p1 o g _ (by decide) (by decide) ⟨0, 2, _, _, rfl, rfl, rfl⟩ (c_X2_madeUp_2 l hst G q n nc t fl fd k wd wf wa cd cf hn i hi ht p1 hy)) (c_X3_madeUp_2 l G mq f a n e0 hn i hi t e16 ht p1 hy) (by decide)
  obtain ⟨hpay, hch, ⟨cn, hcn, e8, e3, hcut⟩, hcb, h9, h11, h10, h45, hz, h20, h21, h22, h3⟩ := RWs i hi
  refine sim_k (h_madeUp_ok l G _ (q 0) (nI i) (nI j) o g _ (by decide) (by decide) ⟨0, 2, _, _, rfl, rfl, rfl⟩ _ _ (c_X2_madeUp_1 l G q n nc t fl fd k wd wf wa cd cf hn i hi ht j hj)) (c_X3_madeUp_1 l G mq f a n e0 hn i hi t e16 ht j hj) (by decide) ((h45 j (by omega)).2) rfl (fun _ => hS9.up24 0)

set_option maxHeartbeats 2000000 in
theorem sim_cutWeeks (l : Launch) (hst : l.stackTraces = false) (G : Gx) (q mq : Nat → Nat) (o : Nat) (g : Nat → Int64) (w : va_W) (f : Nat → Int32) (a : Nat → Nat → Int32) (hS : SR G q w f a) (p0 : Int32) : SIM l G q mq o yL_cutWeeks wsL_cutWeeks yX3_cutWeeks wsX3_cutWeeks [.int p0] w g f a false := by
  have hS9 := hS
  obtain ⟨n, nc, t, fl, fd, k, wd, wf, wa, cd, cf, rfl, R⟩ := hS
  obtain ⟨⟨hn, hnc, ht, e0, e10, e16, e17, e9, hp9⟩, Rk, RWs, RZs, RCs, R15⟩ := R
  rcases rgt p0 (n := n) (by omega) with hx | ⟨i, hi, rfl⟩
  · exact sim_x hS9 (by decide) (h_cutWeeks_x1 l G _ (q 0) p0 o g _ (by decide) (by decide) ⟨0, 2, _, _, rfl, rfl, rfl⟩ (c_X2_cutWeeks_0 l hst G q n nc t fl fd k wd wf wa cd cf hn p0 hx)) (c_X3_cutWeeks_0 l G mq f a n e0 hn p0 hx) (by decide)
  obtain ⟨hpay, hch, ⟨cn, hcn, e8, e3, hcut⟩, hcb, h9, h11, h10, h45, hz, h20, h21, h22, h3⟩ := RWs i hi
  refine sim_k (h_cutWeeks_ok l G _ (q 0) (nI i) o g _ (by decide) (by decide) ⟨0, 2, _, _, rfl, rfl, rfl⟩ _ _ (c_X2_cutWeeks_1 l G q n nc t fl fd k wd wf wa cd cf hn i hi)) (c_X3_cutWeeks_1 l G mq f a n e0 hn i hi) (by decide) h9 rfl (fun _ => hS9.up24 0)

set_option maxHeartbeats 2000000 in
theorem sim_owes (l : Launch) (hst : l.stackTraces = false) (G : Gx) (q mq : Nat → Nat) (o : Nat) (g : Nat → Int64) (w : va_W) (f : Nat → Int32) (a : Nat → Nat → Int32) (hS : SR G q w f a) (p0 : Int32) : SIM l G q mq o yL_owes wsL_owes yX3_owes wsX3_owes [.int p0] w g f a false := by
  have hS9 := hS
  obtain ⟨n, nc, t, fl, fd, k, wd, wf, wa, cd, cf, rfl, R⟩ := hS
  obtain ⟨⟨hn, hnc, ht, e0, e10, e16, e17, e9, hp9⟩, Rk, RWs, RZs, RCs, R15⟩ := R
  rcases rgt p0 (n := n) (by omega) with hx | ⟨i, hi, rfl⟩
  · exact sim_x hS9 (by decide) (h_owes_x1 l G _ (q 0) p0 o g _ (by decide) (by decide) ⟨0, 2, _, _, rfl, rfl, rfl⟩ (c_X2_owes_0 l hst G q n nc t fl fd k wd wf wa cd cf hn p0 hx)) (c_X3_owes_0 l G mq f a n e0 hn p0 hx) (by decide)
  obtain ⟨hpay, hch, ⟨cn, hcn, e8, e3, hcut⟩, hcb, h9, h11, h10, h45, hz, h20, h21, h22, h3⟩ := RWs i hi
  refine sim_k (h_owes_ok l G _ (q 0) (nI i) o g _ (by decide) (by decide) ⟨0, 2, _, _, rfl, rfl, rfl⟩ _ _ (c_X2_owes_1 l G q n nc t fl fd k wd wf wa cd cf hn i hi)) (c_X3_owes_1 l G mq f a n e0 hn i hi) (by decide) h11 rfl (fun _ => hS9.up24 0)

set_option maxHeartbeats 2000000 in
theorem sim_net (l : Launch) (hst : l.stackTraces = false) (G : Gx) (q mq : Nat → Nat) (o : Nat) (g : Nat → Int64) (w : va_W) (f : Nat → Int32) (a : Nat → Nat → Int32) (hS : SR G q w f a) (p0 : Int32) : SIM l G q mq o yL_net wsL_net yX3_net wsX3_net [.int p0] w g f a false := by
  have hS9 := hS
  obtain ⟨n, nc, t, fl, fd, k, wd, wf, wa, cd, cf, rfl, R⟩ := hS
  obtain ⟨⟨hn, hnc, ht, e0, e10, e16, e17, e9, hp9⟩, Rk, RWs, RZs, RCs, R15⟩ := R
  rcases rgt p0 (n := n) (by omega) with hx | ⟨i, hi, rfl⟩
  · exact sim_x hS9 (by decide) (h_net_x1 l G _ (q 0) p0 o g _ (by decide) (by decide) ⟨0, 2, _, _, rfl, rfl, rfl⟩ (c_X2_net_0 l hst G q n nc t fl fd k wd wf wa cd cf hn p0 hx)) (c_X3_net_0 l G mq f a n e0 hn p0 hx) (by decide)
  obtain ⟨hpay, hch, ⟨cn, hcn, e8, e3, hcut⟩, hcb, h9, h11, h10, h45, hz, h20, h21, h22, h3⟩ := RWs i hi
  refine sim_k (h_net_ok l G _ (q 0) (nI i) o g _ (by decide) (by decide) ⟨0, 2, _, _, rfl, rfl, rfl⟩ _ _ (c_X2_net_1 l G q n nc t fl fd k wd wf wa cd cf hn i hi)) (c_X3_net_1 l G mq f a n e0 hn i hi) (by decide) (by rw [h10, h11]; exact (netN_eq a i 201).symm) rfl (fun _ => hS9.up24 0)

set_option maxHeartbeats 2000000 in
theorem sim_setFloor (l : Launch) (hst : l.stackTraces = false) (G : Gx) (q mq : Nat → Nat) (o : Nat) (g : Nat → Int64) (w : va_W) (f : Nat → Int32) (a : Nat → Nat → Int32) (hS : SR G q w f a) (p0 : Int32) : SIM l G q mq o yL_setFloor wsL_setFloor yX3_setFloor wsX3_setFloor [.int p0] w g f a false := by
  have hS9 := hS
  obtain ⟨n, nc, t, fl, fd, k, wd, wf, wa, cd, cf, rfl, R⟩ := hS
  obtain ⟨⟨hn, hnc, ht, e0, e10, e16, e17, e9, hp9⟩, Rk, RWs, RZs, RCs, R15⟩ := R
  rcases rg0 p0 (N := 100) (by decide) with hx | ⟨j, hj, rfl⟩
  · exact sim_x hS9 (by decide) (h_setFloor_x1 l G _ (q 0) p0 o g _ (by decide) (by decide) ⟨0, 2, _, _, rfl, rfl, rfl⟩ (c_X2_setFloor_2 l hst G q n nc t fl fd k wd wf wa cd cf p0 hx)) (c_X3_setFloor_2 l G mq f a p0 hx) (by decide)
  refine sim_k (h_setFloor_ok l G _ (q 0) (nI j) o g _ (by decide) (by decide) ⟨0, 2, _, _, rfl, rfl, rfl⟩ _ _ (c_X2_setFloor_1 l G q n nc t fl fd k wd wf wa cd cf (nI j) (nI_0le (by omega)) (nI_le (b := 100) hj (by decide)))) (c_X3_setFloor_1 l G mq f a (nI j) (nI_0le (by omega)) (nI_le (b := 100) hj (by decide))) (by decide) e17.symm rfl (fun _ => ⟨n, nc, t, nI j, fd, k, wd, wf, wa, cd, cf, rfl, ⟨hn, hnc, ht, e0, e10, e16, rfl, e9, j, hj, rfl⟩, Rk, RWs, RZs, RCs, R15⟩)

set_option maxHeartbeats 2000000 in
theorem sim_door (l : Launch) (hst : l.stackTraces = false) (G : Gx) (q mq : Nat → Nat) (w : va_W) (f : Nat → Int32) (a : Nat → Nat → Int32) (hS : SR G q w f a) (p0 : Int32) (p1 : Int32) (p2 : Int32) : SIMv l G q mq yL_door wsL_door yX3_door wsX3_door [.int p0, .int p1, .int p2] w f a := by
  have hS9 := hS
  obtain ⟨n, nc, t, fl, fd, k, wd, wf, wa, cd, cf, rfl, R⟩ := hS
  obtain ⟨⟨hn, hnc, ht, e0, e10, e16, e17, e9, hp9⟩, Rk, RWs, RZs, RCs, R15⟩ := R
  rcases rgt p0 (n := n) (by omega) with hx | ⟨i, hi, rfl⟩
  · exact simv_x hS9 (h_door_x1 l G _ (q 0) p0 p1 p2 _ (by decide) (by decide) ⟨0, 2, _, _, rfl, rfl, rfl⟩ (c_X2_door_0 l hst G q n nc t fl fd k wd wf wa cd cf hn p0 hx p1 p2)) (c_X3_door_0 l G mq f a n e0 hn p0 hx p1 p2) (by decide)
  rcases rgt p1 (n := t) (by omega) with hy | ⟨j, hj, rfl⟩
  · exact simv_x hS9 (h_door_x2 l G _ (q 0) (nI i) p1 p2 _ (by decide) (by decide) ⟨0, 2, _, _, rfl, rfl, rfl⟩ (c_X2_door_2 l hst G q n nc t fl fd k wd wf wa cd cf hn i hi ht p1 p2 hy)) (c_X3_door_2 l G mq f a n e0 hn i hi t e16 ht p1 p2 hy) (by decide)
  rcases rg0 p2 (N := 80) (by decide) with hz | ⟨h, hh, rfl⟩
  · exact simv_x hS9 (h_door_x2 l G _ (q 0) (nI i) (nI j) p2 _ (by decide) (by decide) ⟨0, 2, _, _, rfl, rfl, rfl⟩ (c_X2_door_22 l hst G q n nc t fl fd k wd wf wa cd cf hn i hi ht j hj p2 hz)) (c_X3_door_22 l G mq f a n e0 hn i hi t e16 ht j hj p2 hz) (by decide)
  by_cases hk : k j = 0
  · refine simv_k (h_door_ok l G _ (q 0) (nI i) (nI j) (nI h) _ (by decide) (by decide) ⟨0, 2, _, _, rfl, rfl, rfl⟩ _ (c_X2_door_1 l G q n nc t fl fd k wd wf wa cd cf hn i hi ht j hj (nI h) (nI_0le (by omega)) (nI_le (b := 80) hh (by decide)) hk)) (c_X3_door_1 l G mq f a n e0 hn i hi t e16 ht j hj (nI h) (nI_0le (by omega)) (nI_le (b := 80) hh (by decide)) ((Rk j (by omega)).symm.trans hk)) (by decide) rfl (fun _ => ⟨n, nc, t, fl, fd, k, wd, wf, _, cd, cf, rfl, ⟨hn, hnc, ht, e0, e10, e16, e17, e9, hp9⟩, Rk, ?_, ?_, RCs, R15⟩)
    · refine RelA (fun x hx hxi => ?_) ?_
      · obtain ⟨hpay, hch, ⟨cn, hcn, e8, e3, hcut⟩, hcb, h9, h11, h10, h45, hz, h20, h21, h22, h3⟩ := RWs x hx
        refine ⟨hpay, hch, ⟨cn, hcn, e8, e3, hcut⟩, hcb, h9, h11, h10.trans (sumM_congr (fun _ _ => ⟨rfl, rfl⟩)), h45, hz, h20, fun y hy => ?_, h22, h3⟩
        rw [show (va_up a 21 (upd (a 21) (201 * i + j) (nI h))) 21 (201 * x + y) = a 21 (201 * x + y) from pk_un (f := a 21) (k := 201 * i + j) (j := 201 * x + y) (x := (nI h)) (by omega)]
        exact h21 y hy
      · obtain ⟨hpay, hch, ⟨cn, hcn, e8, e3, hcut⟩, hcb, h9, h11, h10, h45, hz, h20, h21, h22, h3⟩ := RWs i hi
        refine ⟨hpay, hch, ⟨cn, hcn, e8, e3, hcut⟩, hcb, h9, h11, h10.trans (sumM_congr (fun _ _ => ⟨rfl, rfl⟩)), h45, hz, h20, fun y hy => ?_, h22, h3⟩
        by_cases hyj : y = j
        · subst hyj
          exact Or.inl ⟨(pk_us (f := a 21) (k := 201 * i + y) (x := (nI h))).trans (pk_us (f := wa i 6) (k := y) (x := (nI h))).symm, fun h9 => absurd ((pk_us (f := a 21) (k := 201 * i + y) (x := (nI h))).symm.trans h9) (fun h8 => absurd (nI_0le (n := h) (by omega)) (by rw [h8]; decide))⟩
        · rw [show (va_up a 21 (upd (a 21) (201 * i + j) (nI h))) 21 (201 * i + y) = a 21 (201 * i + y) from pk_un (f := a 21) (k := 201 * i + j) (j := 201 * i + y) (x := (nI h)) (by omega), show (va_up (wa i) 6 (upd (wa i 6) j (nI h))) 6 y = wa i 6 y from pk_un (f := wa i 6) (k := j) (j := y) (x := (nI h)) hyj]
          exact h21 y hy
    · intro x hx hx8
      obtain ⟨z1, z2, z3, z4, z5⟩ := RZs x hx hx8
      refine ⟨z1, z2, z3, fun y hy => ?_, z5⟩
      obtain ⟨y1, y2, y3, y4, y5⟩ := z4 y hy
      exact ⟨y1, y2, y3, (pk_un (f := a 21) (k := 201 * i + j) (j := 201 * x + y) (x := (nI h)) (by omega)).trans y4, y5⟩
  · exact simv_x hS9 (h_door_x3 l G _ (q 0) (nI i) (nI j) (nI h) _ (by decide) (by decide) ⟨0, 2, _, _, rfl, rfl, rfl⟩ (c_X2_door_3 l hst G q n nc t fl fd k wd wf wa cd cf hn i hi ht j hj (nI h) (nI_0le (by omega)) (nI_le (b := 80) hh (by decide)) hk)) (c_X3_door_3 l G mq f a n e0 hn i hi t e16 ht j hj (nI h) (nI_0le (by omega)) (nI_le (b := 80) hh (by decide)) (fun h9 => hk ((Rk j (by omega)).trans h9))) (by decide)

set_option maxHeartbeats 2000000 in
theorem sim_mail (l : Launch) (hst : l.stackTraces = false) (G : Gx) (q mq : Nat → Nat) (w : va_W) (f : Nat → Int32) (a : Nat → Nat → Int32) (hS : SR G q w f a) (p0 : Int32) (p1 : Int32) : SIMv l G q mq yL_mail wsL_mail yX3_mail wsX3_mail [.int p0, .int p1] w f a := by
  have hS9 := hS
  obtain ⟨n, nc, t, fl, fd, k, wd, wf, wa, cd, cf, rfl, R⟩ := hS
  obtain ⟨⟨hn, hnc, ht, e0, e10, e16, e17, e9, hp9⟩, Rk, RWs, RZs, RCs, R15⟩ := R
  rcases rgt p0 (n := n) (by omega) with hx | ⟨i, hi, rfl⟩
  · exact simv_x hS9 (h_mail_x1 l G _ (q 0) p0 p1 _ (by decide) (by decide) ⟨0, 2, _, _, rfl, rfl, rfl⟩ (c_X2_mail_0 l hst G q n nc t fl fd k wd wf wa cd cf hn p0 hx p1)) (c_X3_mail_0 l G mq f a n e0 hn p0 hx p1) (by decide)
  rcases rgt p1 (n := t) (by omega) with hy | ⟨j, hj, rfl⟩
  · exact simv_x hS9 (h_mail_x2 l G _ (q 0) (nI i) p1 _ (by decide) (by decide) ⟨0, 2, _, _, rfl, rfl, rfl⟩ (c_X2_mail_2 l hst G q n nc t fl fd k wd wf wa cd cf hn i hi ht p1 hy)) (c_X3_mail_2 l G mq f a n e0 hn i hi t e16 ht p1 hy) (by decide)
  by_cases hk : k j = 0
  · refine simv_k (h_mail_ok l G _ (q 0) (nI i) (nI j) _ (by decide) (by decide) ⟨0, 2, _, _, rfl, rfl, rfl⟩ _ (c_X2_mail_1 l G q n nc t fl fd k wd wf wa cd cf hn i hi ht j hj hk)) (c_X3_mail_1 l G mq f a n e0 hn i hi t e16 ht j hj ((Rk j (by omega)).symm.trans hk)) (by decide) rfl (fun _ => ⟨n, nc, t, fl, fd, k, wd, wf, _, cd, cf, rfl, ⟨hn, hnc, ht, e0, e10, e16, e17, e9, hp9⟩, Rk, ?_, ?_, RCs, R15⟩)
    · refine RelA (fun x hx hxi => ?_) ?_
      · obtain ⟨hpay, hch, ⟨cn, hcn, e8, e3, hcut⟩, hcb, h9, h11, h10, h45, hz, h20, h21, h22, h3⟩ := RWs x hx
        refine ⟨hpay, hch, ⟨cn, hcn, e8, e3, hcut⟩, hcb, h9, h11, h10.trans (sumM_congr (fun _ _ => ⟨rfl, rfl⟩)), h45, hz, h20, h21, fun y hy => ?_, h3⟩
        exact (h22 y hy).trans (pk_un (f := a 22) (k := 201 * i + j) (j := 201 * x + y) (x := 1) (by omega)).symm
      · obtain ⟨hpay, hch, ⟨cn, hcn, e8, e3, hcut⟩, hcb, h9, h11, h10, h45, hz, h20, h21, h22, h3⟩ := RWs i hi
        refine ⟨hpay, hch, ⟨cn, hcn, e8, e3, hcut⟩, hcb, h9, h11, h10.trans (sumM_congr (fun _ _ => ⟨rfl, rfl⟩)), h45, hz, h20, h21, fun y hy => ?_, h3⟩
        by_cases hyj : y = j
        · subst hyj
          exact (pk_us (f := wa i 7) (k := y) (x := 1)).trans (pk_us (f := a 22) (k := 201 * i + y) (x := 1)).symm
        · exact (pk_un (f := wa i 7) (k := j) (j := y) (x := 1) hyj).trans ((h22 y hy).trans (pk_un (f := a 22) (k := 201 * i + j) (j := 201 * i + y) (x := 1) (by omega)).symm)
    · intro x hx hx8
      obtain ⟨z1, z2, z3, z4, z5⟩ := RZs x hx hx8
      refine ⟨z1, z2, z3, fun y hy => ?_, z5⟩
      obtain ⟨y1, y2, y3, y4, y5⟩ := z4 y hy
      exact ⟨y1, y2, y3, y4, (pk_un (f := a 22) (k := 201 * i + j) (j := 201 * x + y) (x := 1) (by omega)).trans y5⟩
  · exact simv_x hS9 (h_mail_x3 l G _ (q 0) (nI i) (nI j) _ (by decide) (by decide) ⟨0, 2, _, _, rfl, rfl, rfl⟩ (c_X2_mail_3 l hst G q n nc t fl fd k wd wf wa cd cf hn i hi ht j hj hk)) (c_X3_mail_3 l G mq f a n e0 hn i hi t e16 ht j hj (fun h9 => hk ((Rk j (by omega)).trans h9))) (by decide)
