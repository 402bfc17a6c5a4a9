/-! what the sims stand on -/
theorem SR.up24 {G : Gx} {q : Nat → Nat} {w : va_W} {f : Nat → Int32} {a : Nat → Nat → Int32} (h : SR G q w f a) (v : Int32) : SR G q w (va_up f 24 v) a := h
section SK
variable {l : Launch} {G : Gx} {q mq : Nat → Nat} {o : Nat} {yL : MethodName} {wL : List Cond} {y3 : MethodName} {w3 : List Cond} {av : List Value} {w : va_W} {g : Nat → Int64} {f f2 : Nat → Int32} {a a2 : Nat → Nat → Int32} {isb : Bool} {kk b9 ans : Int32} {c1 s1 fr3 lo3 : Nat} {sw2 : (Nat → Nat) → va_W}
/-- both throw -/
theorem sim_x (hS : SR G q w f a) (hk : ¬ kk = 0) (M1 : MI l yL wL ({ frames := 9, cells := c1, slots := s1, locals := 330 } : Room) (.ref (q 0) :: (av ++ [.ref o])) G (w ++ outC G o g) (fun u => w ++ outC G o g) kk)
    (M2 : MI l y3 w3 ({ frames := fr3, cells := 0, slots := 0, locals := lo3 } : Room) (.ref (mq 0) :: av) G (mW G mq f a) (fun _ => mW G mq (va_up f 24 kk) a) b9) (hr : c1 ≤ 8 ∧ s1 ≤ 1300 ∧ fr3 ≤ 9 ∧ lo3 ≤ 330) : SIM l G q mq o yL wL y3 w3 av w g f a isb :=
  ⟨c1, s1, fr3, lo3, kk, b9, g, fun _ => w, va_up f 24 kk, a, hr.1, hr.2.1, hr.2.2.1, hr.2.2.2, M1, M2, va_up_self _ _ _, fun h => absurd h hk, fun _ => hS.up24 kk⟩
/-- both answer -/
theorem sim_k (M1 : MI l yL wL ({ frames := 9, cells := c1, slots := s1, locals := 330 } : Room) (.ref (q 0) :: (av ++ [.ref o])) G (w ++ outC G o g) (fun u => sw2 u ++ outC G o (vp_updL g 0 ans.toInt64)) 0)
    (M2 : MI l y3 w3 ({ frames := fr3, cells := 0, slots := 0, locals := lo3 } : Room) (.ref (mq 0) :: av) G (mW G mq f a) (fun _ => mW G mq f2 a2) b9) (hr : c1 ≤ 8 ∧ s1 ≤ 1300 ∧ fr3 ≤ 9 ∧ lo3 ≤ 330) (hb : ans = b9) (h24 : f2 24 = 0) (hS : ∀ u, SR G q (sw2 u) f2 a2) : SIM l G q mq o yL wL y3 w3 av w g f a false :=
  ⟨c1, s1, fr3, lo3, 0, b9, _, sw2, f2, a2, hr.1, hr.2.1, hr.2.2.1, hr.2.2.2, M1, M2, h24, fun _ => by
    rw [pk_uLs, hb]; rfl, hS⟩
theorem sim_b (M1 : MI l yL wL ({ frames := 9, cells := c1, slots := s1, locals := 330 } : Room) (.ref (q 0) :: (av ++ [.ref o])) G (w ++ outC G o g) (fun u => sw2 u ++ outC G o (vp_updL g 0 (if ans = 0 then 0 else 1))) 0)
    (M2 : MI l y3 w3 ({ frames := fr3, cells := 0, slots := 0, locals := lo3 } : Room) (.ref (mq 0) :: av) G (mW G mq f a) (fun _ => mW G mq f2 a2) b9) (hr : c1 ≤ 8 ∧ s1 ≤ 1300 ∧ fr3 ≤ 9 ∧ lo3 ≤ 330) (hb : ans = b9) (h24 : f2 24 = 0) (hS : ∀ u, SR G q (sw2 u) f2 a2) : SIM l G q mq o yL wL y3 w3 av w g f a true :=
  ⟨c1, s1, fr3, lo3, 0, b9, _, sw2, f2, a2, hr.1, hr.2.1, hr.2.2.1, hr.2.2.2, M1, M2, h24, fun _ => by
    rw [pk_uLs, hb]; rfl, hS⟩
theorem simv_x (hS : SR G q w f a) (M1 : MI l yL wL ({ frames := 9, cells := c1, slots := s1, locals := 330 } : Room) (.ref (q 0) :: av) G w (fun u => w) kk)
    (M2 : MV l y3 w3 ({ frames := fr3, cells := 0, slots := 0, locals := lo3 } : Room) (.ref (mq 0) :: av) G (mW G mq f a) (fun _ => mW G mq (va_up f 24 kk) a)) (hr : c1 ≤ 8 ∧ s1 ≤ 1300 ∧ fr3 ≤ 9 ∧ lo3 ≤ 330) : SIMv l G q mq yL wL y3 w3 av w f a :=
  ⟨c1, s1, fr3, lo3, kk, fun _ => w, va_up f 24 kk, a, hr.1, hr.2.1, hr.2.2.1, hr.2.2.2, M1, M2, va_up_self _ _ _, fun _ => hS.up24 kk⟩
theorem simv_k (M1 : MI l yL wL ({ frames := 9, cells := c1, slots := s1, locals := 330 } : Room) (.ref (q 0) :: av) G w (fun u => sw2 u) 0)
    (M2 : MV l y3 w3 ({ frames := fr3, cells := 0, slots := 0, locals := lo3 } : Room) (.ref (mq 0) :: av) G (mW G mq f a) (fun _ => mW G mq f2 a2)) (hr : c1 ≤ 8 ∧ s1 ≤ 1300 ∧ fr3 ≤ 9 ∧ lo3 ≤ 330) (h24 : f2 24 = 0) (hS : ∀ u, SR G q (sw2 u) f2 a2) : SIMv l G q mq yL wL y3 w3 av w f a :=
  ⟨c1, s1, fr3, lo3, 0, sw2, f2, a2, hr.1, hr.2.1, hr.2.2.1, hr.2.2.2, M1, M2, h24, hS⟩
end SK
/-- in 0 .. N or not -/
theorem rg0 (x : Int32) {N : Nat} (hN : N + 1 < 2 ^ 31) : (x < 0 ∨ nI N < x) ∨ ∃ j : Nat, j ≤ N ∧ x = nI j := by
  rcases pk_ix x (n := N + 1) hN with h | h | ⟨j, h, rfl⟩
  · exact Or.inl (Or.inl h)
  · refine Or.inl (Or.inr ?_)
    rw [Int32.le_iff_toInt_le, nI_toInt (by omega)] at h
    rw [Int32.lt_iff_toInt_lt, nI_toInt (by omega)]
    omega
  · exact Or.inr ⟨j, by omega, rfl⟩
theorem rg1 (x : Int32) {N : Nat} (hN : N + 1 < 2 ^ 31) (h1 : 1 ≤ N) : (x < 1 ∨ nI N < x) ∨ ∃ j : Nat, 1 ≤ j ∧ j ≤ N ∧ x = nI j := by
  rcases rg0 x hN with (h | h) | ⟨j, h, rfl⟩
  · refine Or.inl (Or.inl ?_)
    rw [Int32.lt_iff_toInt_lt] at h ⊢
    have h9 : (0 : Int32).toInt = 0 := rfl
    have h8 : (1 : Int32).toInt = 1 := rfl
    omega
  · exact Or.inl (Or.inr h)
  · rcases Nat.eq_zero_or_pos j with h0 | h0
    · subst h0; exact Or.inl (Or.inl (by decide))
    · exact Or.inr ⟨j, h0, h, rfl⟩
theorem rgt (x : Int32) {n : Nat} (hn : n < 2 ^ 31) : (x < 0 ∨ nI n ≤ x) ∨ ∃ j : Nat, j < n ∧ x = nI j := by
  rcases pk_ix x hn with h | h | h
  · exact Or.inl (Or.inl h)
  · exact Or.inl (Or.inr h)
  · exact Or.inr h
theorem nI_0le {n : Nat} (h : n < 2 ^ 31) : (0 : Int32) ≤ nI n := nI_le (a := 0) (Nat.zero_le n) h
theorem nI_1le {n : Nat} (h1 : 1 ≤ n) (h : n < 2 ^ 31) : (1 : Int32) ≤ nI n := nI_le (a := 1) h1 h
theorem nI_npos {n : Nat} (h1 : 1 ≤ n) (h : n < 2 ^ 31) : ¬ nI n ≤ 0 := i_nle (nI_lt (a := 0) h1 h)
theorem sumM_congr {a b : Nat → Nat → Int32} {i : Nat} : ∀ {m : Nat}, (∀ j, j < m → a 18 (201 * i + j) = b 18 (201 * i + j) ∧ a 19 (201 * i + j) = b 19 (201 * i + j)) → sumM a i m = sumM b i m
  | 0, _ => rfl
  | m + 1, h => by
    show sumM a i m + (a 18 (201 * i + m) + a 19 (201 * i + m)) = sumM b i m + (b 18 (201 * i + m) + b 19 (201 * i + m))
    rw [sumM_congr (fun j hj => h j (Nat.lt_succ_of_lt hj)), (h m (Nat.lt_succ_self m)).1, (h m (Nat.lt_succ_self m)).2]
theorem RelW {n nc t i : Nat} {a' : Nat → Nat → Int32} {wf : Nat → Nat → Int32} {wa : Nat → Nat → Nat → Int32} {f' : Nat → Int32} {w' : Nat → Nat → Int32} (R8 : ∀ x, x < n → x ≠ i → RW t nc a' x (wf x) (wa x)) (hi : RW t nc a' i f' w') : ∀ x, x < n → RW t nc a' x (va_up wf i f' x) (va_up wa i w' x) := by
  intro x hx
  by_cases h : x = i
  · subst h; rw [va_up_self, va_up_self]; exact hi
  · rw [va_up_ne _ _ h, va_up_ne _ _ h]; exact R8 x hx h
theorem RelA {n nc t i : Nat} {a' : Nat → Nat → Int32} {wf : Nat → Nat → Int32} {wa : Nat → Nat → Nat → Int32} {w' : Nat → Nat → Int32} (R8 : ∀ x, x < n → x ≠ i → RW t nc a' x (wf x) (wa x)) (hi : RW t nc a' i (wf i) w') : ∀ x, x < n → RW t nc a' x (wf x) (va_up wa i w' x) := by
  intro x hx
  by_cases h : x = i
  · subst h; rw [va_up_self]; exact hi
  · rw [va_up_ne _ _ h]; exact R8 x hx h
theorem netN_eq (a : Nat → Nat → Int32) (i : Nat) : ∀ m : Nat, netN a i m = sumM a i m - a 8 i
  | 0 => by
    show -(a 8 i) = 0 - a 8 i
    rw [Int32.sub_eq_add_neg, Int32.zero_add]
  | m + 1 => by
    show netN a i m + (a 18 (201 * i + m) + a 19 (201 * i + m)) = sumM a i m + (a 18 (201 * i + m) + a 19 (201 * i + m)) - a 8 i
    rw [netN_eq a i m, Int32.sub_eq_add_neg, Int32.sub_eq_add_neg, Int32.add_assoc, Int32.add_assoc, Int32.add_comm (-(a 8 i))]
/-- is it filled: both say the same -/
theorem fillC_out {a : Nat → Nat → Int32} {i j c : Nat} {h : Int32} (hc : ¬ inC a i c j) : fillC a i (nI j) h c = 0 := by
  unfold fillC
  by_cases h1 : a 15 (8 * c + i) = 0
  · rw [if_pos h1]
  · rw [if_neg h1]
    by_cases h2 : nI j < a 12 c
    · rw [if_pos h2]
    · rw [if_neg h2]
      by_cases h3 : a 13 c < nI j
      · rw [if_pos h3]
      · exact absurd ⟨h1, i_le h2, i_le h3⟩ hc
theorem fillC_in {a : Nat → Nat → Int32} {i j c : Nat} {h : Int32} (hc : inC a i c j) (hp : ¬ a 14 c ≤ 0) : fillC a i (nI j) h c = fillB (a 14 c) h := by
  unfold fillC fillB
  rw [if_neg hc.1, if_neg (i_nlt hc.2.1), if_neg (i_nlt hc.2.2), if_neg hp]
theorem fills_eq {a : Nat → Nat → Int32} {i j nc : Nat} {h v : Int32} (hp : ∀ c, c < nc → ¬ a 14 c ≤ 0) (h3 : ∀ c, c < nc → inC a i c j → v = a 14 c) : ∀ m : Nat, m ≤ nc → ((∀ c, c < m → ¬ inC a i c j) ∧ fillsN a i (nI j) h m = 0) ∨ ((∃ c, c < m ∧ inC a i c j) ∧ fillsN a i (nI j) h m = fillB v h)
  | 0, _ => Or.inl ⟨fun c hc => absurd hc (Nat.not_lt_zero c), rfl⟩
  | m + 1, hm => by
    have ih := fills_eq (h := h) hp h3 m (by omega)
    by_cases hc : inC a i m j
    · have e1 : fillC a i (nI j) h m = fillB v h := by rw [h3 m (by omega) hc]; exact fillC_in hc (hp m (by omega))
      refine Or.inr ⟨⟨m, Nat.lt_succ_self m, hc⟩, ?_⟩
      by_cases h0 : fillsN a i (nI j) h m = 0
      · rw [fillsN_0 h0, e1]
      · rw [fillsN_1 h0]
        rcases ih with ⟨-, i2⟩ | ⟨-, i2⟩
        · exact absurd i2 h0
        · rcases fillsN_01 (a := a) (i := i) (w := nI j) (h := h) m with i3 | i3
          · exact absurd i3 h0
          · rw [← i2, i3]
    · have e1 : fillC a i (nI j) h m = 0 := fillC_out hc
      have e2 : fillsN a i (nI j) h (m + 1) = fillsN a i (nI j) h m := by
        by_cases h0 : fillsN a i (nI j) h m = 0
        · rw [fillsN_0 h0, e1, h0]
        · rw [fillsN_1 h0]
          rcases fillsN_01 (a := a) (i := i) (w := nI j) (h := h) m with i3 | i3
          · exact absurd i3 h0
          · exact i3.symm
      rcases ih with ⟨i1, i2⟩ | ⟨⟨c, i0, i1⟩, i2⟩
      · exact Or.inl ⟨fun c hcm h9 => by
          rcases Nat.lt_succ_iff_lt_or_eq.mp hcm with h8 | h8
          · exact i1 c h8 h9
          · subst h8; exact hc h9, by rw [e2, i2]⟩
      · exact Or.inr ⟨⟨c, by omega, i1⟩, by rw [e2, i2]⟩
theorem RC.pos {a : Nat → Nat → Int32} {c : Nat} {g : Nat → Int32} (h : RC a c g) : ¬ a 14 c ≤ 0 := by
  obtain ⟨-, -, -, -, -, ⟨x, h1, h2, h3⟩, -⟩ := h
  rw [h3]; exact nI_npos h1 (by omega)
theorem RW.fill {t nc i : Nat} {a : Nat → Nat → Int32} {f : Nat → Int32} {w : Nat → Nat → Int32} (R : RW t nc a i f w) (hp : ∀ c, c < nc → ¬ a 14 c ≤ 0) {j : Nat} (hj : j < 201) (h : Int32) : fillB (w 3 j) h = fillsN a i (nI j) h nc := by
  obtain ⟨-, -, -, -, -, -, -, -, -, -, -, -, h3⟩ := R
  rcases fills_eq (h := h) hp (h3 j hj).1 nc (Nat.le_refl nc) with ⟨i1, i2⟩ | ⟨-, i2⟩
  · rw [i2, (h3 j hj).2 i1]; rfl
  · exact i2.symm
