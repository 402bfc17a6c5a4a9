theorem pct_eq (ch w b : Int32) : pctS ch w b = pctM ch w b := by
  unfold pctS pctM
  by_cases h1 : ch = 0
  · by_cases h2 : b = 0
    · by_cases h3 : w < 12
      · simp only [if_pos h1, if_pos h2, if_pos h3, Int32.add_zero]
      · simp only [if_pos h1, if_pos h2, if_neg h3, Int32.add_zero]
    · simp only [if_pos h1, if_neg h2, Int32.add_zero]
  · by_cases h2 : b = 0
    · by_cases h3 : w < 12
      · simp only [if_neg h1, if_pos h2, if_pos h3, Int32.add_zero]
      · simp only [if_neg h1, if_pos h2, if_neg h3]
    · simp only [if_neg h1, if_neg h2]
theorem to100 (x : Int32) (h0 : 0 ≤ x) (h : x ≤ 100) : ∃ c : Nat, c ≤ 100 ∧ x = nI c := by
  rcases rg0 x (N := 100) (by decide) with (h1 | h1) | h1
  · exact absurd h0 (i_nle h1)
  · exact absurd h (i_nle h1)
  · exact h1
theorem stepP_3 (w : Int32) : stepP w = 60 ∨ stepP w = 70 ∨ stepP w = 80 := by
  unfold stepP
  split
  · split
    · exact Or.inl rfl
    · exact Or.inr (Or.inl rfl)
  · exact Or.inr (Or.inr rfl)
theorem pct_nat (ch w b : Int32) : ∃ c : Nat, c ≤ 100 ∧ pctM ch w b = nI c := by
  unfold pctM
  rcases stepP_3 w with h | h | h <;> rw [h] <;> by_cases h1 : ch = 0 <;> by_cases h2 : b = 0 <;> by_cases h3 : w < 12 <;> simp only [h1, h2, h3, if_true, if_false, ite_true, ite_false] <;> exact to100 _ (by decide) (by decide)
theorem made_eq {p h c q : Nat} (hp : p ≤ 100000) (hh : h ≤ 40) (hc : c ≤ 100) (hq : q ≤ 100) : fundP (nI p) (nI h) (nI c) (nI q) = madeM (nI p) (nI h) (nI c) (nI q) := by
  have b1 : p * (40 - h) ≤ 100000 * 40 := Nat.mul_le_mul hp (by omega)
  have b2 : p * (40 - h) / 40 ≤ p := by
    have : p * (40 - h) ≤ p * 40 := Nat.mul_le_mul (Nat.le_refl p) (by omega)
    omega
  generalize hF : p * (40 - h) / 40 = F at b2
  have b3 : (p - F) * c ≤ 100000 * 100 := Nat.mul_le_mul (by omega) hc
  have b4 : (p - F) * c / 100 ≤ p - F := by
    have : (p - F) * c ≤ (p - F) * 100 := Nat.mul_le_mul (Nat.le_refl _) hc
    omega
  have b5 : p * q ≤ 100000 * 100 := Nat.mul_le_mul hp hq
  have b6 : p * q / 100 ≤ p := by
    have : p * q ≤ p * 100 := Nat.mul_le_mul (Nat.le_refl p) hq
    omega
  have e1 : firmP (nI p) (nI h) = nI F := by
    unfold firmP
    rw [show (40 : Int32) = nI 40 from rfl, pk_sub hh, pk_mul, pk_div (by omega) (by decide) (by decide), hF]
  have e2 : (nI p - nI F) * nI c / 100 = nI ((p - F) * c / 100) := by
    rw [show (100 : Int32) = nI 100 from rfl, pk_sub b2, pk_mul, pk_div (by omega) (by decide) (by decide)]
  have e3 : nI p * nI q / 100 = nI (p * q / 100) := by
    rw [show (100 : Int32) = nI 100 from rfl, pk_mul, pk_div (by omega) (by decide) (by decide)]
  unfold fundP madeM
  rw [e1, e2, e3]
  generalize (p - F) * c / 100 = M at b4
  generalize p * q / 100 = V at b6
  rw [nI_add]
  by_cases k1 : V ≤ F + M
  · have k2 : ¬ nI M < nI V - nI F := by
      rw [Int32.lt_iff_toInt_lt, pk_sub_toInt (by omega) (by omega), nI_toInt (by omega)]
      omega
    rw [if_neg k2, if_pos (nI_le k1 (by omega)), nI_add, if_pos (nI_le (by omega) (by omega))]
  · have k2 : nI M < nI V - nI F := by
      rw [Int32.lt_iff_toInt_lt, pk_sub_toInt (by omega) (by omega), nI_toInt (by omega)]
      omega
    have k3 : ¬ nI V ≤ nI (F + M) := i_nle (nI_lt (by omega) (by omega))
    rw [if_pos k2, if_neg k3, pk_sub (by omega), nI_add, if_pos (nI_le (by omega) (by omega))]
theorem sumM_upd {a b : Nat → Nat → Int32} {i t : Nat} {x y : Int32} (hz : a 18 (201 * i + t) = 0 ∧ a 19 (201 * i + t) = 0) (ht : b 18 (201 * i + t) = x ∧ b 19 (201 * i + t) = y) (hn : ∀ j, j ≠ t → b 18 (201 * i + j) = a 18 (201 * i + j) ∧ b 19 (201 * i + j) = a 19 (201 * i + j)) : ∀ m : Nat, (t < m → sumM b i m = sumM a i m + (x + y)) ∧ (m ≤ t → sumM b i m = sumM a i m)
  | 0 => ⟨fun h => absurd h (Nat.not_lt_zero t), fun _ => rfl⟩
  | m + 1 => by
    obtain ⟨i1, i2⟩ := sumM_upd hz ht hn m
    have u : sumM b i (m + 1) = sumM b i m + (b 18 (201 * i + m) + b 19 (201 * i + m)) := rfl
    have v : sumM a i (m + 1) = sumM a i m + (a 18 (201 * i + m) + a 19 (201 * i + m)) := rfl
    refine ⟨fun h => ?_, fun h => ?_⟩
    · rw [u, v]
      by_cases hm : m = t
      · subst hm
        rw [i2 (Nat.le_refl m), hz.1, hz.2, ht.1, ht.2]
        rw [show (0 : Int32) + 0 = 0 from rfl, Int32.add_zero]
      · rw [i1 (by omega), (hn m hm).1, (hn m hm).2]
        generalize x + y = s9
        rw [Int32.add_assoc, Int32.add_assoc, Int32.add_comm s9]
    · rw [u, v, i2 (by omega), (hn m (by omega)).1, (hn m (by omega)).2]
section PAY9
variable {t nc i c x T : Nat} {fl : Int32} {a : Nat → Nat → Int32} {f : Nat → Int32} {w : Nat → Nat → Int32}
theorem payAM_ne {r : Nat} (h7 : r ≠ 7) (h18 : r ≠ 18) (h19 : r ≠ 19) (h20 : r ≠ 20) : payAM a i t c nc fl r = a r := by
  unfold payAM
  rw [va_up_ne _ _ h7, va_up_ne _ _ h20, va_up_ne _ _ h19, va_up_ne _ _ h18]
theorem payAM_18 : payAM a i t c nc fl 18 = upd (a 18) (201 * i + t) (firmP (a 1 i) (hourM a i t c)) := rfl
theorem payAM_19 : payAM a i t c nc fl 19 = upd (a 19) (201 * i + t) (payRM a i t c nc fl) := rfl
theorem payAM_20 : payAM a i t c nc fl 20 = upd (a 20) (201 * i + t) (hourM a i t c) := rfl
theorem payAM_7 : payAM a i t c nc fl 7 = upd (a 7) i (a 7 i + (if hourM a i t c ≤ 0 then 0 else 1)) := rfl
theorem pay_other (ht : t < 201) (hxi : x ≠ i) (R : RW T nc a x f w) : RW T nc (payAM a i t c nc fl) x f w := by
  obtain ⟨hpay, hch, ⟨cn, hcn, e8, e3, hcut⟩, hcb, h9, h11, h10, h45, hz, h20, h21, h22, h3⟩ := R
  have n18 : ∀ j, j < 201 → payAM a i t c nc fl 18 (201 * x + j) = a 18 (201 * x + j) := fun j hj => by rw [payAM_18]; exact pk_un (by omega)
  have n19 : ∀ j, j < 201 → payAM a i t c nc fl 19 (201 * x + j) = a 19 (201 * x + j) := fun j hj => by rw [payAM_19]; exact pk_un (by omega)
  have n20 : ∀ j, j < 201 → payAM a i t c nc fl 20 (201 * x + j) = a 20 (201 * x + j) := fun j hj => by rw [payAM_20]; exact pk_un (by omega)
  have n7 : payAM a i t c nc fl 7 x = a 7 x := by rw [payAM_7]; exact pk_un hxi
  refine ⟨hpay, hch, ⟨cn, hcn, e8, e3, hcut⟩, hcb, h9.trans n7.symm, h11, h10.trans (sumM_congr (fun j hj => ⟨(n18 j hj).symm, (n19 j hj).symm⟩)), fun j hj => ⟨(h45 j hj).1.trans (n18 j hj).symm, (h45 j hj).2.trans (n19 j hj).symm⟩, fun j h1 hj => ⟨(n18 j hj).trans (hz j h1 hj).1, (n19 j hj).trans (hz j h1 hj).2⟩, fun j h1 hj => (n20 j hj).trans (h20 j h1 hj), h21, h22, h3⟩
theorem pay_RZ (ht : t < 201) (hxi : x ≠ i) (R : RZ a x) : RZ (payAM a i t c nc fl) x := by
  obtain ⟨z1, z2, z3, z4, z5⟩ := R
  refine ⟨z1, ?_, z3, fun j hj => ?_, z5⟩
  · rw [payAM_7]; exact (pk_un hxi).trans z2
  · obtain ⟨y1, y2, y3, y4, y5⟩ := z4 j hj
    refine ⟨?_, ?_, ?_, y4, y5⟩
    · rw [payAM_18]; exact (pk_un (by omega)).trans y1
    · rw [payAM_19]; exact (pk_un (by omega)).trans y2
    · rw [payAM_20]; exact (pk_un (by omega)).trans y3
theorem pay_own (ht : t < 201) (hc3 : a 3 i = nI c) (hc30 : c ≤ 30) (hfl : ∃ p : Nat, p ≤ 100 ∧ fl = nI p) (hpos : ∀ c, c < nc → ¬ a 14 c ≤ 0) (R : RW t nc a i f w) : RW (t + 1) nc (payAM a i t c nc fl) i (pF f w t fl) (pA f w t fl) ∧ pR f w t fl = payRM a i t c nc fl := by
  have hfill := R.fill hpos ht
  obtain ⟨⟨p, hp1, hp2, hp3, hp4⟩, hch, ⟨cn, hcn, e8, e3, hcut⟩, hcb, h9, h11, h10, h45, hz, h20, h21, h22, h3⟩ := R
  have hcc : cn = c := (nI_eq (by omega) (by omega)).mp (e3.symm.trans hc3)
  subst hcc
  have hh : hourM a i t cn = w 2 t := (hcut t ht).symm
  obtain ⟨k, hk1, hk2⟩ := hcb t ht
  obtain ⟨v, hv1, hv2⟩ := hfl
  have eR : pR f w t fl = payRM a i t cn nc fl := by
    unfold pR payRM pcM
    rw [hh, hfill, pct_eq, hch, h9, hp3, hp4]
    obtain ⟨cc, q1, q2⟩ := pct_nat (a 2 i) (a 7 i) (fillsN a i (nI t) (w 2 t) nc)
    rw [q2, hk2, hv2]
    exact made_eq hp2 hk1 q1 hv1
  have eF : firmP (f 0) (w 2 t) = firmP (a 1 i) (hourM a i t cn) := by rw [hh, hp3, hp4]
  refine ⟨⟨⟨p, hp1, hp2, hp3, hp4⟩, hch, ⟨cn, hcn, e8, e3, hcut⟩, hcb, ?_, h11, ?_, fun j hj => ?_, fun j h1 hj => ?_, fun j h1 hj => ?_, h21, h22, h3⟩, eR⟩
  · rw [payAM_7, pk_us, hh, ← h9]
    show (if w 2 t ≤ 0 then f 9 else f 9 + 1) = _
    by_cases q : w 2 t ≤ 0
    · rw [if_pos q, if_pos q, Int32.add_zero]
    · rw [if_neg q, if_neg q]
  · have z := hz t (Nat.le_refl t) ht
    rw [((sumM_upd (b := payAM a i t cn nc fl) (x := firmP (a 1 i) (hourM a i t cn)) (y := payRM a i t cn nc fl) z ⟨by rw [payAM_18, pk_us], by rw [payAM_19, pk_us]⟩ (fun j hj => ⟨by rw [payAM_18]; exact pk_un (by omega), by rw [payAM_19]; exact pk_un (by omega)⟩) 201).1 ht), ← h10, ← eF, ← eR]
    rfl
  · rw [payAM_18, payAM_19]
    show upd (w 4) t (firmP (f 0) (w 2 t)) j = _ ∧ upd (w 5) t (pR f w t fl) j = _
    by_cases hjt : j = t
    · subst hjt
      rw [pk_us, pk_us, pk_us, pk_us, eF, eR]
      exact ⟨rfl, rfl⟩
    · rw [pk_un hjt, pk_un hjt, pk_un (show 201 * i + j ≠ 201 * i + t by omega), pk_un (show 201 * i + j ≠ 201 * i + t by omega)]
      exact h45 j hj
  · rw [payAM_18, payAM_19, pk_un (show 201 * i + j ≠ 201 * i + t by omega), pk_un (show 201 * i + j ≠ 201 * i + t by omega)]
    exact hz j (by omega) hj
  · rw [payAM_20]
    by_cases hjt : j = t
    · subst hjt; rw [pk_us]; exact hh
    · rw [pk_un (show 201 * i + j ≠ 201 * i + t by omega)]; exact h20 j (by omega) hj
end PAY9
theorem week_rel {n nc t : Nat} {fl fd : Int32} {k : Nat → Int32} {wf : Nat → Nat → Int32} {wa : Nat → Nat → Nat → Int32} {cf : Nat → Nat → Int32} {f : Nat → Int32} {a : Nat → Nat → Int32} (R : Rel n nc t fl fd k wf wa cf f a) (ht : t < 201) (cn : Nat → Nat) (hcn : ∀ i, i < n → a 3 i = nI (cn i) ∧ cn i ≤ 30) : ∀ m : Nat, m ≤ n →
    (∀ i, i < m → RW (t + 1) nc (weekAM a t cn nc fl m) i ((payWS fl t wf wa m).1 i) ((payWS fl t wf wa m).2 i)) ∧ (∀ i, m ≤ i → i < n → RW t nc (weekAM a t cn nc fl m) i ((payWS fl t wf wa m).1 i) ((payWS fl t wf wa m).2 i)) ∧ (∀ r, r ≠ 7 → r ≠ 18 → r ≠ 19 → r ≠ 20 → weekAM a t cn nc fl m r = a r) ∧ (∀ i, n ≤ i → i < 8 → RZ (weekAM a t cn nc fl m) i) ∧ ∀ acc, weekSM a t cn nc fl acc m = acc + payWT fl t wf wa m
  | 0, _ => ⟨fun i hi => absurd hi (Nat.not_lt_zero i), fun i _ hi => R.2.2.1 i hi, fun _ _ _ _ _ => rfl, R.2.2.2.1, fun acc => (Int32.add_zero acc).symm⟩
  | m + 1, hm => by
    obtain ⟨i1, i2, i3, i4, i5⟩ := week_rel R ht cn hcn m (by omega)
    have hpos : ∀ c, c < nc → ¬ weekAM a t cn nc fl m 14 c ≤ 0 := fun c hc => by rw [i3 14 (by decide) (by decide) (by decide) (by decide)]; exact (R.2.2.2.2.1 c hc).pos
    have h3 : weekAM a t cn nc fl m 3 m = nI (cn m) := by rw [i3 3 (by decide) (by decide) (by decide) (by decide)]; exact (hcn m (by omega)).1
    obtain ⟨g1, g2⟩ := pay_own (fl := fl) ht h3 (hcn m (by omega)).2 R.1.2.2.2.2.2.2.2.2 hpos (i2 m (Nat.le_refl m) (by omega))
    refine ⟨fun i hi => ?_, fun i hi hin => ?_, fun r h7 h18 h19 h20 => ?_, fun i hi hi8 => pay_RZ ht (by omega) (i4 i hi hi8), fun acc => ?_⟩
    · show RW (t + 1) nc (payAM (weekAM a t cn nc fl m) m t (cn m) nc fl) i (va_up (payWS fl t wf wa m).1 m _ i) (va_up (payWS fl t wf wa m).2 m _ i)
      by_cases him : i = m
      · subst him; rw [va_up_self, va_up_self]; exact g1
      · rw [va_up_ne _ _ him, va_up_ne _ _ him]; exact pay_other ht him (i1 i (by omega))
    · show RW t nc (payAM (weekAM a t cn nc fl m) m t (cn m) nc fl) i (va_up (payWS fl t wf wa m).1 m _ i) (va_up (payWS fl t wf wa m).2 m _ i)
      have him : i ≠ m := by omega
      rw [va_up_ne _ _ him, va_up_ne _ _ him]; exact pay_other ht him (i2 i (by omega) hin)
    · exact (payAM_ne h7 h18 h19 h20).trans (i3 r h7 h18 h19 h20)
    · show weekSM a t cn nc fl acc m + payRM (weekAM a t cn nc fl m) m t (cn m) nc fl = acc + (payWT fl t wf wa m + pR ((payWS fl t wf wa m).1 m) ((payWS fl t wf wa m).2 m) t fl)
      rw [i5 acc, g2, Int32.add_assoc]
theorem RC_rows {a b : Nat → Nat → Int32} {c : Nat} {g : Nat → Int32} (h11 : b 11 = a 11) (h12 : b 12 = a 12) (h13 : b 13 = a 13) (h14 : b 14 = a 14) (R : RC a c g) : RC b c g := by
  unfold RC at R ⊢
  rw [h11, h12, h13, h14]; exact R
theorem weeks_rel {n nc t : Nat} {fl fd : Int32} {k : Nat → Int32} {wf : Nat → Nat → Int32} {wa : Nat → Nat → Nat → Int32} {cf : Nat → Nat → Int32} {f : Nat → Int32} {a : Nat → Nat → Int32} (R : Rel n nc t fl fd k wf wa cf f a) (cn : Nat → Nat) (hcn : ∀ i, i < n → a 3 i = nI (cn i) ∧ cn i ≤ 30) : ∀ m : Nat, t + m ≤ 201 →
    Rel n nc (t + m) fl fd k (passWS fl t n wf wa m).1 (passWS fl t n wf wa m).2 cf (va_up f 16 (nI (t + m))) (passAM a t cn n nc fl m) ∧ passSM a t cn n nc fl m = passWT fl t n wf wa m
  | 0, _ => ⟨by
    refine ⟨⟨R.1.1, R.1.2.1, R.1.2.2.1, R.1.2.2.2.1, R.1.2.2.2.2.1, rfl, R.1.2.2.2.2.2.2.1, R.1.2.2.2.2.2.2.2.1, R.1.2.2.2.2.2.2.2.2⟩, R.2⟩, rfl⟩
  | m + 1, hm => by
    obtain ⟨r1, r2⟩ := weeks_rel R cn hcn m (by omega)
    have hcn2 : ∀ i, i < n → passAM a t cn n nc fl m 3 i = nI (cn i) ∧ cn i ≤ 30 := fun i hi => by rw [passAM_3]; exact hcn i hi
    obtain ⟨i1, i2, i3, i4, i5⟩ := week_rel r1 (by omega) cn hcn2 n (Nat.le_refl n)
    refine ⟨⟨⟨r1.1.1, r1.1.2.1, hm, r1.1.2.2.2.1, r1.1.2.2.2.2.1, rfl, r1.1.2.2.2.2.2.2.1, r1.1.2.2.2.2.2.2.2.1, r1.1.2.2.2.2.2.2.2.2⟩, fun j hj => ?_, i1, i4, fun c hc => ?_, fun c hc hc10 i hi => ?_⟩, ?_⟩
    · show k j = weekAM (passAM a t cn n nc fl m) (t + m) cn nc fl n 23 j
      rw [i3 23 (by decide) (by decide) (by decide) (by decide)]; exact r1.2.1 j hj
    · exact RC_rows (i3 11 (by decide) (by decide) (by decide) (by decide)) (i3 12 (by decide) (by decide) (by decide) (by decide)) (i3 13 (by decide) (by decide) (by decide) (by decide)) (i3 14 (by decide) (by decide) (by decide) (by decide)) (r1.2.2.2.2.1 c hc)
    · show weekAM (passAM a t cn n nc fl m) (t + m) cn nc fl n 15 (8 * c + i) = 0
      rw [i3 15 (by decide) (by decide) (by decide) (by decide)]; exact r1.2.2.2.2.2 c hc hc10 i hi
    · show weekSM (passAM a t cn n nc fl m) (t + m) cn nc fl (passSM a t cn n nc fl m) n = passWT fl t n wf wa m + payWT fl (t + m) (passWS fl t n wf wa m).1 (passWS fl t n wf wa m).2 n
      rw [i5, r2]
set_option maxHeartbeats 2000000 in
theorem sim_pass (l : Launch) (hst : l.stackTraces = false) (G : Gx) (q mq : Nat → Nat) (o : Nat) (g : Nat → Int64) (w : va_W) (f : Nat → Int32) (a : Nat → Nat → Int32) (hS : SR G q w f a) (p0 : Int32) : SIM l G q mq o yL_pass wsL_pass yX3_pass wsX3_pass [.int p0] w g f a false := by
  have hS9 := hS
  obtain ⟨n, nc, t, fl, fd, k, wd, wf, wa, cd, cf, rfl, R⟩ := hS
  obtain ⟨⟨hn, hnc, ht, e0, e10, e16, e17, e9, hp9⟩, Rk, RWs, RZs, RCs, R15⟩ := R
  rcases rg1 p0 (N := 60) (by decide) (by decide) with hy | ⟨m, hm1, hm2, rfl⟩
  · exact sim_x hS9 (by decide) (h_pass_x1 l G _ (q 0) p0 o g _ (by decide) (by decide) ⟨0, 2, _, _, rfl, rfl, rfl⟩ (c_X2_pass_2 l hst G q n nc t fl fd k wd wf wa cd cf p0 hy)) (c_X3_pass_2 l G mq f a p0 hy) (by decide)
  by_cases hz9 : 201 < t + m
  · exact sim_x hS9 (by decide) (h_pass_x2 l G _ (q 0) (nI m) o g _ (by decide) (by decide) ⟨0, 2, _, _, rfl, rfl, rfl⟩ (c_X2_pass_3 l hst G q n nc t fl fd k wd wf wa cd cf ht m hm1 hm2 hz9)) (c_X3_pass_3 l G mq f a t e16 ht m hm1 hm2 hz9) (by decide)
  have hz8 : t + m ≤ 201 := by omega
  have hcn : ∀ i, i < n → a 3 i = nI (a 3 i).toNatClampNeg ∧ (a 3 i).toNatClampNeg ≤ 30 := fun i hi => by
    obtain ⟨-, -, ⟨c, hc, -, e3, -⟩, -⟩ := RWs i hi
    rw [e3, nI_clamp (by omega)]; exact ⟨rfl, hc⟩
  obtain ⟨r1, r2⟩ := weeks_rel (f := va_up f 24 0) ⟨⟨hn, hnc, ht, e0, e10, e16, e17, e9, hp9⟩, Rk, RWs, RZs, RCs, R15⟩ (fun i => (a 3 i).toNatClampNeg) hcn m hz8
  have hp1 := c_X3_pass_1 l G mq f a n e0 hn nc e10 hnc (fun i => (a 3 i).toNatClampNeg) (fun i hi => (hcn i hi).1) (fun i hi => (hcn i hi).2) t e16 ht m hm1 hm2 hz8
  rw [e17] at hp1
  refine sim_k (h_pass_ok l G _ (q 0) (nI m) o g _ (by decide) (by decide) ⟨0, 2, _, _, rfl, rfl, rfl⟩ _ _ (c_X2_pass_1 l G q n nc t fl fd k wd wf wa cd cf hn m hm1 hm2 hz8)) (hp1) (by decide) r2.symm rfl (fun _ => ⟨n, nc, t + m, fl, fd, k, wd, _, _, cd, cf, rfl, r1⟩)
