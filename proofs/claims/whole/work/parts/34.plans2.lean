theorem sp_goes (σ : sw_S) (hσ : sw_gs σ) (hD : 10 ≤ σ 26 0 ∧ σ 26 0 ≤ 400) (hV : 1 ≤ σ 26 1 ∧ σ 26 1 ≤ 20) (hA : 1 ≤ σ 26 2 ∧ σ 26 2 ≤ 5) (p v x : Int) (hp : 0 ≤ p ∧ p ≤ σ 26 0) (hv : -σ 26 1 ≤ v ∧ v ≤ σ 26 1) (hx : -30 ≤ x ∧ x ≤ 30) (hf : -1 ≤ σ 36 (sw_cd p v)) : sw_Con sw_ly sw_rho M_X8_goes [.inr (.inr 26), .inl p, .inl v, .inl x] σ (fun r σ' => σ = σ' ∧ (((-σ 26 2 ≤ x - v ∧ x - v ≤ σ 26 2) ∧ sw_tk (σ 35) (σ 26 0) (σ 26 1) p x ∧ σ 36 (sw_cd (p + x) x) = σ 36 (sw_cd p v) - 1) ∧ r = some (.inl 1) ∨ ¬ ((-σ 26 2 ≤ x - v ∧ x - v ≤ σ 26 2) ∧ sw_tk (σ 35) (σ 26 0) (σ 26 1) p x ∧ σ 36 (sw_cd (p + x) x) = σ 36 (sw_cd p v) - 1) ∧ r = some (.inl 0))) := by
  refine sw_con (by decide) (Nat.le_of_ble_eq_true rfl) ?_
  refine sw_blk k_X8_goes 10 16 [(4, .inl (x - v)), (0, .inr (.inr 26)), (1, .inl p), (2, .inl v), (3, .inl x)] [.inl (σ 26 2), .inl (-(σ 26 2)), .inl (x - v)] σ rfl ?_
  refine sw_callS k_X8_goes rfl cS_X8_in ml_X8_87 ⟨by decide, by decide⟩ [.inl (x - v), .inl (-(σ 26 2)), .inl (σ 26 2)] [] rfl rfl (Nat.le_of_ble_eq_true rfl) 19 rfl (sp_in σ (x - v) (-(σ 26 2)) (σ 26 2) (by omega) (by omega) (hσ 26 _)) (fun r2 σ3 hq4 => ?_)
  obtain ⟨rfl, ⟨p1, rfl⟩ | ⟨p1, rfl⟩⟩ := hq4
  · refine sw_blk k_X8_goes 0 19 [(4, .inl (x - v)), (0, .inr (.inr 26)), (1, .inl p), (2, .inl v), (3, .inl x)] [.inl 1] σ rfl ?_
    refine sw_if_eq k_X8_goes rfl (by decide) 70 22 (by decide) rfl (fun c => absurd c (by decide)) (fun _ => ?_)
    refine sw_blk k_X8_goes 3 25 [(4, .inl (x - v)), (0, .inr (.inr 26)), (1, .inl p), (2, .inl v), (3, .inl x)] [.inl x, .inl p, .inr (.inr 26)] σ rfl ?_
    refine sw_callV k_X8_goes rfl cV_X8_isTick ml_X8_114 ⟨by decide, by decide⟩ 26 rfl rfl [.inl p, .inl x] [] rfl rfl (Nat.le_of_ble_eq_true rfl) 28 rfl (sp_isTick σ hσ p x hp hD hV (by omega)) (fun r6 σ7 hq8 => ?_)
    obtain ⟨rfl, ⟨p5, rfl⟩ | ⟨p5, rfl⟩⟩ := hq8
    · have htk := p5
      have t1 := htk.2.1
      have t2 := htk.2.2.1
      have t3 := sw_abs_le htk.1
      have z9 : -1 ≤ σ 36 (41 * p + v + 20).toNat := hf
      have z8 := hσ 36 (41 * p + v + 20).toNat
      refine sw_blk k_X8_goes 0 28 [(4, .inl (x - v)), (0, .inr (.inr 26)), (1, .inl p), (2, .inl v), (3, .inl x)] [.inl 1] σ rfl ?_
      refine sw_if_eq k_X8_goes rfl (by decide) 70 31 (by decide) rfl (fun c => absurd c (by decide)) (fun _ => ?_)
      refine sw_blk k_X8_goes 11 46 [(4, .inl (x - v)), (0, .inr (.inr 26)), (1, .inl p), (2, .inl v), (3, .inl x)] [.inl (((41 * (p + x)) + x) + 20), .inr (.inr 36)] σ rfl ?_
      refine sw_iald k_X8_goes rfl (i := 36) (n := 16441) rfl (by decide) (by omega) (by omega) 47 rfl ?_
      refine sw_blk k_X8_goes 9 60 [(4, .inl (x - v)), (0, .inr (.inr 26)), (1, .inl p), (2, .inl v), (3, .inl x)] [.inl (((41 * p) + v) + 20), .inr (.inr 36), .inl (σ 36 ((((41 * (p + x)) + x) + 20).toNat))] σ rfl ?_
      refine sw_iald k_X8_goes rfl (i := 36) (n := 16441) rfl (by decide) (by omega) (by omega) 61 rfl ?_
      refine sw_blk k_X8_goes 2 63 [(4, .inl (x - v)), (0, .inr (.inr 26)), (1, .inl p), (2, .inl v), (3, .inl x)] [.inl ((σ 36 ((((41 * p) + v) + 20).toNat)) - 1), .inl (σ 36 ((((41 * (p + x)) + x) + 20).toNat))] σ rfl ?_
      refine sw_icmp_ne k_X8_goes rfl (hσ 36 _) (by omega) 70 66 (by decide) rfl (fun c9 => ?_) (fun c9 => ?_)
      · refine sw_blk k_X8_goes 1 71 [(4, .inl (x - v)), (0, .inr (.inr 26)), (1, .inl p), (2, .inl v), (3, .inl x)] [.inl 0] σ rfl ?_
        refine sw_zreturn k_X8_goes rfl rfl (by decide) ?_
        exact ⟨rfl, Or.inr ⟨fun q9 => by first | exact htk q9.2.1 | (have z1 := q9.1; omega) | (have z3 : σ 36 (41 * (p + x) + x + 20).toNat = σ 36 (41 * p + v + 20).toNat - 1 := q9.2.2; omega), rfl⟩⟩
      · refine sw_blk k_X8_goes 2 71 [(4, .inl (x - v)), (0, .inr (.inr 26)), (1, .inl p), (2, .inl v), (3, .inl x)] [.inl 1] σ rfl ?_
        refine sw_zreturn k_X8_goes rfl rfl (by decide) ?_
        exact ⟨rfl, Or.inl ⟨⟨by omega, htk, by show σ 36 (41 * (p + x) + x + 20).toNat = σ 36 (41 * p + v + 20).toNat - 1; omega⟩, rfl⟩⟩
    · have htk := p5
      refine sw_blk k_X8_goes 0 28 [(4, .inl (x - v)), (0, .inr (.inr 26)), (1, .inl p), (2, .inl v), (3, .inl x)] [.inl 0] σ rfl ?_
      refine sw_if_eq k_X8_goes rfl (by decide) 70 31 (by decide) rfl (fun _ => ?_) (fun c => absurd (by decide) c)
      refine sw_blk k_X8_goes 1 71 [(4, .inl (x - v)), (0, .inr (.inr 26)), (1, .inl p), (2, .inl v), (3, .inl x)] [.inl 0] σ rfl ?_
      refine sw_zreturn k_X8_goes rfl rfl (by decide) ?_
      exact ⟨rfl, Or.inr ⟨fun q9 => by first | exact htk q9.2.1 | (have z1 := q9.1; omega) | (have z3 : σ 36 (41 * (p + x) + x + 20).toNat = σ 36 (41 * p + v + 20).toNat - 1 := q9.2.2; omega), rfl⟩⟩
  · refine sw_blk k_X8_goes 0 19 [(4, .inl (x - v)), (0, .inr (.inr 26)), (1, .inl p), (2, .inl v), (3, .inl x)] [.inl 0] σ rfl ?_
    refine sw_if_eq k_X8_goes rfl (by decide) 70 22 (by decide) rfl (fun _ => ?_) (fun c => absurd (by decide) c)
    refine sw_blk k_X8_goes 1 71 [(4, .inl (x - v)), (0, .inr (.inr 26)), (1, .inl p), (2, .inl v), (3, .inl x)] [.inl 0] σ rfl ?_
    refine sw_zreturn k_X8_goes rfl rfl (by decide) ?_
    exact ⟨rfl, Or.inr ⟨fun q9 => by first | exact htk q9.2.1 | (have z1 := q9.1; omega) | (have z3 : σ 36 (41 * (p + x) + x + 20).toNat = σ 36 (41 * p + v + 20).toNat - 1 := q9.2.2; omega), rfl⟩⟩
theorem lp_next (σt : sw_S) (hg : sw_gs σt) (hD : 10 ≤ σt 26 0 ∧ σt 26 0 ≤ 400) (hV : 1 ≤ σt 26 1 ∧ σt 26 1 ≤ 20) (hA : 1 ≤ σt 26 2 ∧ σt 26 2 ≤ 5) (fr q w p v d b : Int) (k r : Nat) (hw : w = 1 ∨ w = -1) (ep : p = q - w * d) (ev : v = w * b) (F : sw_LF (σt 35) (σt 26 0) (σt 26 1) (σt 26 2) q (σt 36)) (I : sw_PI (σt 35) (σt 26 0) (σt 26 1) (σt 26 2) q w (r + 1) d b) (Q : Option sw_Vl → sw_S → Prop) (hQ : ∀ u : Int, sw_bs (σt 35) (σt 26 0) (σt 26 1) (σt 26 2) q w r d b u → sw_E sw_ly sw_rho M_X8_plans 76 [(7, .inl (w * u)), (6, .inl (k : Int)), (5, .inl v), (4, .inl p), (3, .inl w), (0, .inr (.inr 26)), (1, .inl fr), (2, .inl q)] [] σt Q) : ∀ (n : Nat) (u x : Int), x = w * u → (0 ≤ u ∧ u ≤ 20) → (∀ t, u < t → ¬ (1 ≤ t ∧ t ≤ d ∧ b - σt 26 2 ≤ t ∧ t ≤ b + σt 26 2 ∧ sw_tk (σt 35) (σt 26 0) (σt 26 1) (q - w * d) (w * t) ∧ sw_R (σt 35) (σt 26 0) (σt 26 1) (σt 26 2) q w r (d - t) t)) → u.toNat < n → sw_E sw_ly sw_rho M_X8_plans 54 [(7, .inl x), (6, .inl (k : Int)), (5, .inl v), (4, .inl p), (3, .inl w), (0, .inr (.inr 26)), (1, .inl fr), (2, .inl q)] [] σt Q := by
  intro n
  induction n with
  | zero =>
    intro u x ex hu hb hn
    (exfalso; omega)
  | succ n ih =>
    intro u x ex hu hb hn
    have hff := sw_PI_f hw hA.1 F I
    have hu1 : 1 ≤ u := by
      rcases Int.lt_or_le 0 u with z | z
      · omega
      · exfalso
        obtain ⟨s, s1, s2, s3, s4, s5, s6⟩ := I.2.2.2.1
        exact hb s (by omega) ⟨s1, s2, s3, s4, s5, s6⟩
    refine sw_blk k_X8_plans 4 61 [(7, .inl x), (6, .inl (k : Int)), (5, .inl v), (4, .inl p), (3, .inl w), (0, .inr (.inr 26)), (1, .inl fr), (2, .inl q)] [.inl x, .inl v, .inl p, .inr (.inr 26)] σt rfl ?_
    refine sw_callV k_X8_plans rfl cV_X8_goes ml_X8_122 ⟨by decide, by decide⟩ 26 rfl rfl [.inl p, .inl v, .inl x] [] rfl rfl (Nat.le_of_ble_eq_true rfl) 64 rfl (sp_goes σt hg hD hV hA p v x (by rw [ep]; exact I.2.2.1) (by have := I.2.1; rw [ev]; rcases hw with rfl | rfl <;> omega) (by rcases hw with rfl | rfl <;> omega) (by rw [ep, ev, hff]; omega)) (fun r2 σ3 hq4 => ?_)
    obtain ⟨rfl, ⟨p1, rfl⟩ | ⟨p1, rfl⟩⟩ := hq4
    · rw [ep, ev, ex, hff, show ((r + 1 : Nat) : Int) - 1 = (r : Int) by omega] at p1
      have hgo := (sw_PI_goes hw hA.1 F I).mp p1
      refine sw_blk k_X8_plans 0 64 [(7, .inl x), (6, .inl (k : Int)), (5, .inl v), (4, .inl p), (3, .inl w), (0, .inr (.inr 26)), (1, .inl fr), (2, .inl q)] [.inl 1] σt rfl ?_
      refine sw_if_ne k_X8_plans rfl (by decide) 76 67 (by decide) rfl (fun _ => ?_) (fun c => absurd c (by decide))
      rw [ex]
      exact hQ u ⟨hgo.1, hgo.2.1, hgo.2.2.1, hgo.2.2.2.1, hgo.2.2.2.2.1, hgo.2.2.2.2.2, fun t t1 t2 t3 t4 t5 => hb t t1 ⟨by omega, t2, by omega, t3, t4, t5⟩⟩
    · rw [ep, ev, ex, hff, show ((r + 1 : Nat) : Int) - 1 = (r : Int) by omega] at p1
      have hno := fun z => p1 ((sw_PI_goes hw hA.1 F I).mpr z)
      refine sw_blk k_X8_plans 0 64 [(7, .inl x), (6, .inl (k : Int)), (5, .inl v), (4, .inl p), (3, .inl w), (0, .inr (.inr 26)), (1, .inl fr), (2, .inl q)] [.inl 0] σt rfl ?_
      refine sw_if_ne k_X8_plans rfl (by decide) 76 67 (by decide) rfl (fun c => absurd (by decide) c) (fun _ => ?_)
      refine sw_blk k_X8_plans 5 54 [(7, .inl (x - w)), (6, .inl (k : Int)), (5, .inl v), (4, .inl p), (3, .inl w), (0, .inr (.inr 26)), (1, .inl fr), (2, .inl q)] [] σt rfl ?_
      refine ih (u - 1) _ (by rw [ex]; rcases hw with rfl | rfl <;> omega) (by omega) (fun t t1 t2 => ?_) (by omega)
      rcases Int.lt_or_le u t with z | z
      · exact hb t z t2
      · have et : t = u := by omega
        rw [et] at t2
        exact hno t2
theorem lp_plans (lim : Nat → Int) (D V A fr q w : Int) (hw : w = 1 ∨ w = -1) (hD0 : 10 ≤ D ∧ D ≤ 400) (hV0 : 1 ≤ V ∧ V ≤ 20) (hA0 : 1 ≤ A ∧ A ≤ 5) (Q : Option sw_Vl → sw_S → Prop) : ∀ (n : Nat) (m k : Nat) (d b p v : Int) (σt : sw_S), p = q - w * d → v = w * b → sw_gs σt → σt 35 = lim → σt 26 0 = D → σt 26 1 = V → σt 26 2 = A → sw_LF lim D V A q (σt 36) → sw_PI lim D V A q w m d b → k + m ≤ 400 → (∀ τ : sw_S, (∀ i j, i ≠ 38 → τ i j = σt i j) → (∀ j, j < k → τ 38 j = σt 38 j) → sw_gs τ → sw_gp lim D V A q w m d b (τ 38) k → Q (some (.inl ((k + m : Nat) : Int))) τ) → m < n → sw_E sw_ly sw_rho M_X8_plans 29 [(6, .inl (k : Int)), (5, .inl v), (4, .inl p), (3, .inl w), (0, .inr (.inr 26)), (1, .inl fr), (2, .inl q)] [] σt Q := by
  intro n
  induction n with
  | zero =>
    intro m k d b p v σt ep ev hg e35 e0 e1 e2 F I hk hQ hn
    omega
  | succ n ih =>
    intro m k d b p v σt ep ev hg e35 e0 e1 e2 F I hk hQ hn
    subst e35
    subst e0
    subst e1
    subst e2
    have hD := hD0
    have hV := hV0
    have hA := hA0
    have hff := sw_PI_f hw hA0.1 F I
    have hpl := I.2.2.1
    have hbv := I.2.1
    have hvv : -σt 26 1 ≤ v ∧ v ≤ σt 26 1 := by rw [ev]; rcases hw with rfl | rfl <;> omega
    have hpp : 0 ≤ p ∧ p ≤ σt 26 0 := by rw [ep]; exact hpl
    have hff2 : σt 36 (41 * p + v + 20).toNat = m := by rw [← hff, ep, ev]; rfl
    refine sw_blk k_X8_plans 9 44 [(6, .inl (k : Int)), (5, .inl v), (4, .inl p), (3, .inl w), (0, .inr (.inr 26)), (1, .inl fr), (2, .inl q)] [.inl (((41 * p) + v) + 20), .inr (.inr 36)] σt rfl ?_
    refine sw_iald k_X8_plans rfl (i := 36) (n := 16441) rfl (by decide) (by omega) (by omega) 45 rfl ?_
    refine sw_blk k_X8_plans 0 45 [(6, .inl (k : Int)), (5, .inl v), (4, .inl p), (3, .inl w), (0, .inr (.inr 26)), (1, .inl fr), (2, .inl q)] [.inl (σt 36 ((((41 * p) + v) + 20).toNat))] σt rfl ?_
    refine sw_if_le k_X8_plans rfl (hg 36 _) 102 48 (by decide) rfl (fun c1 => ?_) (fun c1 => ?_)
    · have c1 : σt 36 (41 * p + v + 20).toNat ≤ 0 := c1
      refine sw_blk k_X8_plans 1 104 [(6, .inl (k : Int)), (5, .inl v), (4, .inl p), (3, .inl w), (0, .inr (.inr 26)), (1, .inl fr), (2, .inl q)] [.inl (k : Int)] σt rfl ?_
      refine sw_ireturn k_X8_plans rfl rfl ?_
      have em : m = 0 := by omega
      subst em
      exact hQ σt (fun _ _ _ => rfl) (fun _ _ => rfl) hg trivial
    · have c1 : ¬ σt 36 (41 * p + v + 20).toNat ≤ 0 := c1
      obtain ⟨r, er⟩ : ∃ r, m = r + 1 := ⟨m - 1, by omega⟩
      have I2 := I
      rw [er] at I2
      refine sw_blk k_X8_plans 4 54 [(7, .inl (w * 20)), (6, .inl (k : Int)), (5, .inl v), (4, .inl p), (3, .inl w), (0, .inr (.inr 26)), (1, .inl fr), (2, .inl q)] [] σt rfl ?_
      refine lp_next σt hg hD hV hA fr q w p v d b k r hw ep ev F I2 Q (fun u hbs => ?_) 40 20 _ (by omega) (by omega) (fun t t1 t2 => ?_) (by omega)
      · have hbs2 := hbs
        obtain ⟨z1, z2, z3, z4, z5, z6, z7⟩ := hbs
        have I3 := sw_PI_s hw I2 ⟨z1, z2, z3, z4, z5, z6⟩
        have hu := sw_abs_le z5.1
        refine sw_blk k_X8_plans 4 84 [(7, .inl (w * u)), (6, .inl (k : Int)), (5, .inl v), (4, .inl p), (3, .inl w), (0, .inr (.inr 26)), (1, .inl fr), (2, .inl q)] [.inl (w * u), .inl (k : Int), .inr (.inr 38)] σt rfl ?_
        refine sw_iast k_X8_plans rfl (i := 38) (n := 600) rfl (by decide) (by omega) (by omega) 85 rfl ?_
        refine sw_blk k_X8_plans 8 29 [(5, .inl (w * u)), (4, .inl (p + (w * u))), (6, .inl ((k : Int) + 1)), (7, .inl (w * u)), (3, .inl w), (0, .inr (.inr 26)), (1, .inl fr), (2, .inl q)] [] (sw_u σt 38 k (w * u)) rfl ?_
        refine sw_Lsub [(6, .inl ((k : Int) + 1)), (5, .inl (w * u)), (4, .inl (p + (w * u))), (3, .inl w), (0, .inr (.inr 26)), (1, .inl fr), (2, .inl q)] [2, 0, 1, 4, 5, 6, 7] rfl ?_
        refine ih r (k + 1) (d - u) u _ _ (sw_u σt 38 k (w * u)) (by rw [ep]; rcases hw with rfl | rfl <;> omega) rfl (sw_gs_u hg _ _ (by rcases hw with rfl | rfl <;> omega)) rfl rfl rfl rfl F I3 (by omega) (fun τ y1 y2 y3 y4 => ?_) (by omega)
        have hk2 : τ 38 k = w * u := by rw [y2 k (by omega), sw_u_same]
        have h9 := hQ τ (fun i j hi => by rw [y1 i j hi, sw_u_row _ _ hi]) (fun j hj => by rw [y2 j (by omega), sw_u_ne _ _ (fun y => by have := y.2; omega)]) y3 (by rw [er]; exact ⟨u, hk2, hbs2, y4⟩)
        rw [show k + m = k + 1 + r by omega] at h9
        exact h9
      · have t3 := sw_abs_le t2.2.2.2.2.1.1
        rcases hw with rfl | rfl <;> omega
theorem sp_plans (σ : sw_S) (hσ : sw_gs σ) (hz : 0 ≤ σ 26 3 ∧ σ 26 3 ≤ 6) (hD : 10 ≤ σ 26 0 ∧ σ 26 0 ≤ 400) (hV : 1 ≤ σ 26 1 ∧ σ 26 1 ≤ 20) (hA : 1 ≤ σ 26 2 ∧ σ 26 2 ≤ 5) (lim : Nat → Int) (hl : ∀ j : Nat, (j : Int) ≤ σ 26 0 → lim j = sw_lm σ j) (hL : ∀ x : Int, 0 ≤ x → x ≤ σ 26 0 → 1 ≤ lim x.toNat) (fr q : Int) (hf : 0 ≤ fr ∧ fr ≤ σ 26 0) (hq : 0 ≤ q ∧ q ≤ σ 26 0) : sw_Con sw_ly sw_rho M_X8_plans [.inr (.inr 26), .inl fr, .inl q] σ (fun r σ' => (∀ i j, i ≠ 35 → i ≠ 36 → i ≠ 37 → i ≠ 38 → σ' i j = σ i j) ∧ sw_gs σ' ∧ ∃ n : Nat, r = some (.inl (n : Int)) ∧ (n : Int) ≤ 400 ∧ sw_R lim (σ 26 0) (σ 26 1) (σ 26 2) q (if fr < q then 1 else -1) n (sw_abs (q - fr)) 0 ∧ (∀ m : Nat, m < n → ¬ sw_R lim (σ 26 0) (σ 26 1) (σ 26 2) q (if fr < q then 1 else -1) m (sw_abs (q - fr)) 0) ∧ sw_gp lim (σ 26 0) (σ 26 1) (σ 26 2) q (if fr < q then 1 else -1) n (sw_abs (q - fr)) 0 (σ' 38) 0) := by
  refine sw_con (by decide) (Nat.le_of_ble_eq_true rfl) ?_
  refine sw_blk k_X8_plans 1 1 [(0, .inr (.inr 26)), (1, .inl fr), (2, .inl q)] [.inr (.inr 26)] σ rfl ?_
  refine sw_callV k_X8_plans rfl cV_X8_lookAtZones ml_X8_111 ⟨by decide, by decide⟩ 26 rfl rfl [] [] rfl rfl (Nat.le_of_ble_eq_true rfl) 4 rfl (sp_look σ hσ hz hD) (fun r1 σ2 hq3 => ?_)
  obtain ⟨rfl, rfl⟩ := hq3
  have hg9 : sw_gs (sw_pf σ 35 (sw_lm σ) ((σ 26 0).toNat + 1)) := sw_pf_gs hσ 35 _ (fun j _ => sw_lm_g hσ j)
  have hll : ∀ j : Nat, (j : Int) ≤ σ 26 0 → (sw_pf σ 35 (sw_lm σ) ((σ 26 0).toNat + 1)) 35 j = lim j := fun j hj => by rw [hl j hj]; exact sw_pf_in σ 35 (sw_lm σ) (by omega)
  refine sw_blk k_X8_plans 2 6 [(0, .inr (.inr 26)), (1, .inl fr), (2, .inl q)] [.inl q, .inr (.inr 26)] (sw_pf σ 35 (sw_lm σ) ((σ 26 0).toNat + 1)) rfl ?_
  refine sw_callV k_X8_plans rfl cV_X8_workBack ml_X8_118 ⟨by decide, by decide⟩ 26 rfl rfl [.inl q] [] rfl rfl (Nat.le_of_ble_eq_true rfl) 9 rfl (sp_workBack (sw_pf σ 35 (sw_lm σ) ((σ 26 0).toNat + 1)) hg9 hD hV hA q hq) (fun r4 σ5 hq6 => ?_)
  obtain ⟨rfl, k1, hg, F⟩ := hq6
  refine sw_blk k_X8_plans 2 11 [(0, .inr (.inr 26)), (1, .inl fr), (2, .inl q)] [.inl fr, .inl q] σ5 rfl ?_
  refine sw_icmp_le k_X8_plans rfl (by omega) (by omega) 18 14 (by decide) rfl (fun c7 => ?_) (fun c7 => ?_)
  · refine sw_blk k_X8_plans 8 29 [(6, .inl 0), (5, .inl 0), (4, .inl fr), (3, .inl (-1)), (0, .inr (.inr 26)), (1, .inl fr), (2, .inl q)] [] σ5 rfl ?_
    have ew : (if fr < q then (1 : Int) else -1) = (-1) := by split <;> omega
    have ed : sw_abs (q - fr) = (fr - q) := by unfold sw_abs; split <;> omega
    rw [ew, ed]
    have hww : ((-1) : Int) = 1 ∨ ((-1) : Int) = -1 := (Or.inr rfl)
    have hpd : 0 ≤ q - (-1) * (fr - q) ∧ q - (-1) * (fr - q) ≤ σ 26 0 := by omega
    have hLL : ∀ x : Int, 0 ≤ x → x ≤ σ 26 0 → 1 ≤ (sw_pf σ 35 (sw_lm σ) ((σ 26 0).toNat + 1)) 35 x.toNat := fun x x1 x2 => by rw [hll x.toNat (by omega)]; exact hL x x1 x2
    obtain ⟨n, n1, I, n2⟩ := sw_PI_0 (lim := (sw_pf σ 35 (sw_lm σ) ((σ 26 0).toNat + 1)) 35) (D := σ 26 0) (V := σ 26 1) (A := σ 26 2) (q := q) (w := (-1)) (d := (fr - q)) hww hA.1 hV.1 hLL hq (by omega) hpd F
    refine lp_plans ((sw_pf σ 35 (sw_lm σ) ((σ 26 0).toNat + 1)) 35) (σ 26 0) (σ 26 1) (σ 26 2) fr q (-1) hww hD hV hA _ 500 n 0 (fr - q) 0 fr 0 σ5 (by omega) (by omega) hg (funext fun j => k1 35 j (by decide) (by decide)) (k1 26 0 (by decide) (by decide)) (k1 26 1 (by decide) (by decide)) (k1 26 2 (by decide) (by decide)) F I (by omega) (fun τ y1 y2 y3 y4 => ?_) (by omega)
    rw [Nat.zero_add]
    refine ⟨fun i j i1 i2 i3 i4 => ?_, y3, n, rfl, by omega, sw_R_lc hww hll n _ _ hpd I.2.2.2.1, fun m hm hr => n2 m hm (sw_R_lc hww (fun j hj => (hll j hj).symm) m _ _ hpd hr), sw_gp_lc hww hll n _ _ _ hpd y4⟩
    rw [y1 i j i4, k1 i j i2 i3]
    exact sw_pf_row σ _ _ i1 j
  · refine sw_blk k_X8_plans 9 29 [(6, .inl 0), (5, .inl 0), (4, .inl fr), (3, .inl 1), (0, .inr (.inr 26)), (1, .inl fr), (2, .inl q)] [] σ5 rfl ?_
    have ew : (if fr < q then (1 : Int) else -1) = 1 := by split <;> omega
    have ed : sw_abs (q - fr) = (q - fr) := by unfold sw_abs; split <;> omega
    rw [ew, ed]
    have hww : (1 : Int) = 1 ∨ (1 : Int) = -1 := (Or.inl rfl)
    have hpd : 0 ≤ q - 1 * (q - fr) ∧ q - 1 * (q - fr) ≤ σ 26 0 := by omega
    have hLL : ∀ x : Int, 0 ≤ x → x ≤ σ 26 0 → 1 ≤ (sw_pf σ 35 (sw_lm σ) ((σ 26 0).toNat + 1)) 35 x.toNat := fun x x1 x2 => by rw [hll x.toNat (by omega)]; exact hL x x1 x2
    obtain ⟨n, n1, I, n2⟩ := sw_PI_0 (lim := (sw_pf σ 35 (sw_lm σ) ((σ 26 0).toNat + 1)) 35) (D := σ 26 0) (V := σ 26 1) (A := σ 26 2) (q := q) (w := 1) (d := (q - fr)) hww hA.1 hV.1 hLL hq (by omega) hpd F
    refine lp_plans ((sw_pf σ 35 (sw_lm σ) ((σ 26 0).toNat + 1)) 35) (σ 26 0) (σ 26 1) (σ 26 2) fr q 1 hww hD hV hA _ 500 n 0 (q - fr) 0 fr 0 σ5 (by omega) (by omega) hg (funext fun j => k1 35 j (by decide) (by decide)) (k1 26 0 (by decide) (by decide)) (k1 26 1 (by decide) (by decide)) (k1 26 2 (by decide) (by decide)) F I (by omega) (fun τ y1 y2 y3 y4 => ?_) (by omega)
    rw [Nat.zero_add]
    refine ⟨fun i j i1 i2 i3 i4 => ?_, y3, n, rfl, by omega, sw_R_lc hww hll n _ _ hpd I.2.2.2.1, fun m hm hr => n2 m hm (sw_R_lc hww (fun j hj => (hll j hj).symm) m _ _ hpd hr), sw_gp_lc hww hll n _ _ _ hpd y4⟩
    rw [y1 i j i4, k1 i j i2 i3]
    exact sw_pf_row σ _ _ i1 j
