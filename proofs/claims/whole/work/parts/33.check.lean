theorem i_sub0 (x : Int32) : x - 0 = x := by rw [Int32.sub_eq_add_neg]; exact Int32.add_zero x
theorem muchB_01 (h d m : Int32) : muchB h d m = 0 ∨ muchB h d m = 1 := by
  unfold muchB
  split
  · exact Or.inl rfl
  · split
    · exact Or.inl rfl
    · exact Or.inr rfl
theorem RW.chk {t nc i : Nat} {a : Nat → Nat → Int32} {f : Nat → Int32} {w : Nat → Nat → Int32} (R : RW t nc a i f w) {j : Nat} (hj : j < t) (hj2 : j < 201) : muchB (w 2 j) (w 6 j) (w 5 j) = chkB a (201 * i + j) ∧ w 5 j = a 19 (201 * i + j) ∧ w 7 j = a 22 (201 * i + j) := by
  obtain ⟨-, -, -, hcb, -, -, -, h45, -, h20, h21, h22, -⟩ := R
  refine ⟨?_, (h45 j hj2).2, h22 j hj2⟩
  unfold muchB chkB
  rw [h20 j hj hj2, ← (h45 j hj2).2]
  rcases h21 j hj2 with ⟨g1, g2⟩ | ⟨g1, g2⟩
  · rw [if_neg g2, g1]
  · obtain ⟨hh, h1, h2⟩ := hcb j hj2
    have e : (40 : Int32) - nI hh + 2 = nI (40 - hh + 2) := by
      rw [show (40 : Int32) = nI 40 from rfl, pk_sub h1, show (2 : Int32) = nI 2 from rfl, nI_add]
    rw [if_pos g1, g2, h2, e, if_pos (nI_0le (by omega))]
theorem ck_eq {n nc t j : Nat} {fd : Int32} {wf : Nat → Nat → Int32} {wa : Nat → Nat → Nat → Int32} {a : Nat → Nat → Int32} (R : ∀ i, i < n → RW t nc a i (wf i) (wa i)) (hj : j < t) (hj2 : j < 201) : ∀ m : Nat, m ≤ n →
    (∀ x r, r ≠ 11 → ckF wf wa j m x r = wf x r) ∧ (∀ x, x < n → ckF wf wa j m x 11 = chkO a j m x) ∧ ckD wa j fd m = chkF a j fd m ∧ ckC wa j m = chkN a j m
  | 0, _ => ⟨fun _ _ _ => rfl, fun x hx => (R x hx).2.2.2.2.2.1, rfl, rfl⟩
  | m + 1, hm => by
    obtain ⟨i1, i2, i3, i4⟩ := ck_eq (fd := fd) R hj hj2 m (by omega)
    obtain ⟨b1, b2, b3⟩ := (R m (by omega)).chk hj hj2
    have b0 : ckB wa j m = chkB a (201 * m + j) := b1
    by_cases c0 : ckB wa j m = 0
    · have c1 : chkB a (201 * m + j) = 0 := b0.symm.trans c0
      rw [(ck_0 (wf := wf) (fd := fd) c0).1, (ck_0 (wf := wf) (fd := fd) c0).2.1, (ck_0 (wf := wf) (fd := fd) c0).2.2, (chk_0 (f9 := fd) c1).1, (chk_0 (f9 := fd) c1).2.1, (chk_0 (f9 := fd) c1).2.2]
      exact ⟨i1, i2, i3, i4⟩
    · have c1 : chkB a (201 * m + j) = 1 := b0.symm.trans ((muchB_01 _ _ _).resolve_left c0)
      obtain ⟨d1, d2, d3⟩ := chk_1 (f9 := fd) c1
      rw [d1, d2, d3]
      by_cases c2 : wa m 7 j = 0
      · obtain ⟨g1, g2, g3⟩ := ck_n (wf := wf) (fd := fd) c0 c2
        have e1 : halfM a (201 * m + j) = wa m 5 j / 2 := by unfold halfM; rw [if_pos (b3.symm.trans c2), b2]
        have e2 : extraM a (201 * m + j) = 0 := by unfold extraM; rw [if_pos (b3.symm.trans c2)]
        rw [g1, g2, g3, e1, e2, i3, i4, ← b2, Int32.add_zero]
        refine ⟨fun x r hr => ?_, fun x hx => ?_, rfl, rfl⟩
        · by_cases hxm : x = m
          · subst hxm; rw [va_up_self, va_up_ne _ _ hr]; exact i1 x r hr
          · rw [va_up_ne _ _ hxm]; exact i1 x r hr
        · by_cases hxm : x = m
          · subst hxm; rw [va_up_self, va_up_self, pk_us, i2 x hx]
          · rw [va_up_ne _ _ hxm, pk_un hxm]; exact i2 x hx
      · obtain ⟨g1, g2, g3⟩ := ck_m (wf := wf) (fd := fd) c0 c2
        have c3 : ¬ a 22 (201 * m + j) = 0 := fun h => c2 (b3.trans h)
        have e1 : halfM a (201 * m + j) = 0 := by unfold halfM; rw [if_neg c3]
        have e2 : extraM a (201 * m + j) = wa m 5 j * 10 / 100 := by unfold extraM; rw [if_neg c3, b2]
        rw [g1, g2, g3, e1, e2, i3, i4, ← b2, i_sub0]
        refine ⟨i1, fun x hx => ?_, rfl, rfl⟩
        by_cases hxm : x = m
        · subst hxm; rw [pk_us, Int32.add_zero]; exact i2 x hx
        · rw [pk_un hxm]; exact i2 x hx
theorem chkO_out {a : Nat → Nat → Int32} {j z : Nat} : ∀ (m : Nat), m ≤ z → chkO a j m z = a 8 z
  | 0, _ => rfl
  | m + 1, h => by
    show (if chkB a (201 * m + j) = 0 then chkO a j m else upd (chkO a j m) m (chkO a j m m + halfM a (201 * m + j))) z = a 8 z
    split
    · exact chkO_out m (by omega)
    · rw [pk_un (by omega)]; exact chkO_out m (by omega)
set_option maxHeartbeats 2000000 in
theorem sim_check (l : Launch) (hst : l.stackTraces = false) (G : Gx) (q mq : Nat → Nat) (o : Nat) (g : Nat → Int64) (w : va_W) (f : Nat → Int32) (a : Nat → Nat → Int32) (hS : SR G q w f a) (p0 : Int32) : SIM l G q mq o yL_check wsL_check yX3_check wsX3_check [.int p0] w g f a false := by
  have hS9 := hS
  obtain ⟨n, nc, t, fl, fd, k, wd, wf, wa, cd, cf, rfl, R⟩ := hS
  obtain ⟨⟨hn, hnc, ht, e0, e10, e16, e17, e9, hp9⟩, Rk, RWs, RZs, RCs, R15⟩ := R
  rcases rgt p0 (n := t) (by omega) with hy | ⟨j, hj, rfl⟩
  · exact sim_x hS9 (by decide) (h_check_x1 l G _ (q 0) p0 o g _ (by decide) (by decide) ⟨0, 2, _, _, rfl, rfl, rfl⟩ (c_X2_check_2 l hst G q n nc t fl fd k wd wf wa cd cf ht p0 hy)) (c_X3_check_2 l G mq f a t e16 ht p0 hy) (by decide)
  by_cases hk : k j = 0
  case neg =>
    exact sim_x hS9 (by decide) (h_check_x2 l G _ (q 0) (nI j) o g _ (by decide) (by decide) ⟨0, 2, _, _, rfl, rfl, rfl⟩ (c_X2_check_3 l hst G q n nc t fl fd k wd wf wa cd cf ht j hj hk)) (c_X3_check_3 l G mq f a n e0 hn t e16 ht j hj (fun h9 => hk ((Rk j (by omega)).trans h9))) (by decide)
  have hk2 : a 23 j = 0 := (Rk j (by omega)).symm.trans hk
  obtain ⟨i1, i2, i3, i4⟩ := ck_eq (fd := fd) RWs hj (by omega) n (Nat.le_refl n)
  refine sim_k (h_check_ok l G _ (q 0) (nI j) o g _ (by decide) (by decide) ⟨0, 2, _, _, rfl, rfl, rfl⟩ _ _ (c_X2_check_1 l G q n nc t fl fd k wd wf wa cd cf hn ht j hj hk)) (c_X3_check_1 l G mq f a n e0 hn t e16 ht j hj hk2) (by decide) i4 rfl (fun _ => ⟨n, nc, t, fl, _, _, wd, _, wa, cd, cf, rfl, ⟨hn, hnc, ht, e0, e10, e16, e17, (by rw [i3, ← e9]; rfl), hp9⟩, fun z hz => ?_, fun z hz8 => ?_, fun z hz hz8 => ?_, RCs, R15⟩)
  · by_cases hzj : z = j
    · subst hzj; exact (pk_us (f := k)).trans (pk_us (f := a 23)).symm
    · exact (pk_un (f := k) hzj).trans ((Rk z hz).trans (pk_un (f := a 23) hzj).symm)
  · obtain ⟨hpay, hch, ⟨cn, hcn, e8, e3, hcut⟩, hcb, h9, h11, h10, h45, hz, h20, h21, h22, h3⟩ := RWs z hz8
    rw [← i1 z 0 (by decide)] at hpay
    rw [← i1 z 1 (by decide)] at hch
    rw [← i1 z 8 (by decide)] at e8
    rw [← i1 z 9 (by decide)] at h9
    rw [← i1 z 10 (by decide)] at h10
    exact ⟨hpay, hch, ⟨cn, hcn, e8, e3, hcut⟩, hcb, h9, i2 z hz8, h10.trans (sumM_congr (fun _ _ => ⟨rfl, rfl⟩)), h45, hz, h20, h21, h22, h3⟩
  · obtain ⟨z1, z2, z3, z4, z5⟩ := RZs z hz hz8
    exact ⟨z1, z2, (chkO_out n hz).trans z3, z4, z5⟩
