def sw_gx (f : Nat → Int) (n j : Nat) : Int := if j < n then f j else 0
/-- it slips at the j-th tick of a row of n speeds, or as it comes to stand (j = n) -/
def sw_sl (l0 l1 wt D : Int) (f : Nat → Int) (n : Nat) (p k : Int) (j : Nat) : Prop := sw_slp l0 l1 wt D (sw_pl f p j) (sw_gx f n j - sw_pv f j) k
/-- a row of n speeds keeps within the shaft, its changes small -/
def sw_rk (D : Int) (f : Nat → Int) (n : Nat) (p : Int) : Prop := ∀ j, j ≤ n → (0 ≤ sw_pl f p j ∧ sw_pl f p j ≤ D) ∧ (-9 ≤ sw_gx f n j - sw_pv f j ∧ sw_gx f n j - sw_pv f j ≤ 9)
def sw_fs (sl : Nat → Prop) (n : Nat) (x : Int) : Prop := (n = 0 ∧ x = -1) ∨ (0 < n ∧ ((∃ j : Nat, j ≤ n ∧ sl j ∧ (∀ i, i < j → ¬ sl i) ∧ x = (j : Int) + 1) ∨ ((∀ j, j ≤ n → ¬ sl j) ∧ x = -1)))
theorem sw_fs_one {sl : Nat → Prop} {n : Nat} {x y : Int} (h : sw_fs sl n x) (k : sw_fs sl n y) : x = y := by
  rcases h with ⟨h1, h2⟩ | ⟨h0, ⟨j, h1, h2, h3, h4⟩ | ⟨h1, h2⟩⟩ <;> rcases k with ⟨k1, k2⟩ | ⟨k0, ⟨i, k1, k2, k3, k4⟩ | ⟨k1, k2⟩⟩
  · omega
  · omega
  · omega
  · omega
  · rcases Nat.lt_trichotomy i j with z | z | z
    · exact absurd k2 (h3 i z)
    · omega
    · exact absurd h2 (k3 j z)
  · exact absurd h2 (k1 j h1)
  · omega
  · exact absurd k2 (h1 i k1)
  · omega
def sw_lr (sl : Int → Nat → Prop) (n : Nat) (x : Int) : Prop := (100 ≤ x ∧ x ≤ 400 ∧ (∀ j, 0 < n → j ≤ n → ¬ sl x j) ∧ ∀ k, 100 ≤ k → k < x → ∃ j, 0 < n ∧ j ≤ n ∧ sl k j) ∨ (x = -1 ∧ ∀ k, 100 ≤ k → k ≤ 400 → ∃ j, 0 < n ∧ j ≤ n ∧ sl k j)
theorem sw_lr_one {sl : Int → Nat → Prop} {n : Nat} {x y : Int} (h : sw_lr sl n x) (k : sw_lr sl n y) : x = y := by
  rcases h with ⟨h1, h2, h3, h4⟩ | ⟨h1, h2⟩ <;> rcases k with ⟨k1, k2, k3, k4⟩ | ⟨k1, k2⟩
  · rcases Int.lt_trichotomy x y with z | z | z
    · obtain ⟨j, a, b, c⟩ := k4 x h1 z; exact absurd c (h3 j a b)
    · exact z
    · obtain ⟨j, a, b, c⟩ := h4 y k1 z; exact absurd c (k3 j a b)
  · obtain ⟨j, a, b, c⟩ := k2 x h1 h2; exact absurd c (h3 j a b)
  · obtain ⟨j, a, b, c⟩ := h2 y k1 k2; exact absurd c (k3 j a b)
  · omega
theorem sw_slp_mono {l0 l1 wt D p c k k' : Int} (h0 : 0 ≤ sw_q0 l0 wt p c) (h1 : 0 ≤ sw_q1 l1 wt D p c) (hk : k' ≤ k) (h : sw_slp l0 l1 wt D p c k) : sw_slp l0 l1 wt D p c k' := by
  unfold sw_slp at *
  have := Int.mul_le_mul_of_nonneg_right hk (show 0 ≤ min (sw_q0 l0 wt p c) (sw_q1 l1 wt D p c) by omega)
  omega
theorem lp_fslip (σ : sw_S) (hσ : sw_gs σ) (hl0 : 0 ≤ σ 11 1 ∧ σ 11 1 ≤ 1000) (hl1 : 0 ≤ σ 11 2 ∧ σ 11 2 ≤ 1000) (hwt : 0 ≤ σ 11 3 ∧ σ 11 3 ≤ 10) (hD : 10 ≤ σ 1 0 ∧ σ 1 0 ≤ 400) (hkp : 100 ≤ σ 11 4 ∧ σ 11 4 ≤ 400) (N : Nat) (p : Int) (hN : N ≤ 400) (hr : sw_rk (σ 1 0) (σ 25) N p) (Q : Option sw_Vl → sw_S → Prop) (hQ : ∀ x : Int, sw_fs (sw_sl (σ 11 1) (σ 11 2) (σ 11 3) (σ 1 0) (σ 25) N p (σ 11 4)) N x → Q (some (.inl x)) σ) : ∀ (n : Nat) (i : Nat) (q b : Int), i ≤ N + 1 → (i ≤ N → q = sw_pl (σ 25) p i) → (i ≤ N → b = sw_pv (σ 25) i) → (∀ j, j < i → ¬ (sw_sl (σ 11 1) (σ 11 2) (σ 11 3) (σ 1 0) (σ 25) N p (σ 11 4)) j) → 402 - i < n → sw_E sw_ly sw_rho M_X2_firstSlip 9 [(6, .inl (i : Int)), (5, .inl b), (4, .inl q), (0, .inr (.inr 11)), (1, .inl p), (2, .inr (.inr 25)), (3, .inl (N : Int))] [] σ Q := by
  intro n
  induction n with
  | zero =>
    intro i q b hi eq_ eb_ hno hn
    omega
  | succ n ih =>
    intro i q b hi eq_ eb_ hno hn
    refine sw_blk k_X2_firstSlip 2 12 [(6, .inl (i : Int)), (5, .inl b), (4, .inl q), (0, .inr (.inr 11)), (1, .inl p), (2, .inr (.inr 25)), (3, .inl (N : Int))] [.inl (N : Int), .inl (i : Int)] σ rfl ?_
    refine sw_icmp_gt k_X2_firstSlip rfl (by omega) (by omega) 75 15 (by decide) rfl (fun c1 => ?_) (fun c1 => ?_)
    · refine sw_blk k_X2_firstSlip 1 76 [(6, .inl (i : Int)), (5, .inl b), (4, .inl q), (0, .inr (.inr 11)), (1, .inl p), (2, .inr (.inr 25)), (3, .inl (N : Int))] [.inl (-1)] σ rfl ?_
      refine sw_ireturn k_X2_firstSlip rfl rfl ?_
      rcases Nat.eq_zero_or_pos N with z | z
      · exact hQ _ (Or.inl ⟨z, rfl⟩)
      · exact hQ _ (Or.inr ⟨z, Or.inr ⟨fun j hj => hno j (by omega), rfl⟩⟩)
    · refine sw_blk k_X2_firstSlip 1 16 [(6, .inl (i : Int)), (5, .inl b), (4, .inl q), (0, .inr (.inr 11)), (1, .inl p), (2, .inr (.inr 25)), (3, .inl (N : Int))] [.inl (N : Int)] σ rfl ?_
      refine sw_if_le k_X2_firstSlip rfl (by omega) 75 19 (by decide) rfl (fun c2 => ?_) (fun c2 => ?_)
      · refine sw_blk k_X2_firstSlip 1 76 [(6, .inl (i : Int)), (5, .inl b), (4, .inl q), (0, .inr (.inr 11)), (1, .inl p), (2, .inr (.inr 25)), (3, .inl (N : Int))] [.inl (-1)] σ rfl ?_
        refine sw_ireturn k_X2_firstSlip rfl rfl ?_
        rcases Nat.eq_zero_or_pos N with z | z
        · exact hQ _ (Or.inl ⟨z, rfl⟩)
        · exact hQ _ (Or.inr ⟨z, Or.inr ⟨fun j hj => hno j (by omega), rfl⟩⟩)
      · refine sw_blk k_X2_firstSlip 2 22 [(6, .inl (i : Int)), (5, .inl b), (4, .inl q), (0, .inr (.inr 11)), (1, .inl p), (2, .inr (.inr 25)), (3, .inl (N : Int))] [.inl (N : Int), .inl (i : Int)] σ rfl ?_
        refine sw_icmp_ge k_X2_firstSlip rfl (by omega) (by omega) 32 25 (by decide) rfl (fun c3 => ?_) (fun c3 => ?_)
        · have egx : sw_gx (σ 25) N i = 0 := by unfold sw_gx; rw [if_neg (by omega)]
          have hri := hr i (by omega)
          rw [← eq_ (by omega), ← eb_ (by omega), egx] at hri
          refine sw_blk k_X2_firstSlip 9 47 [(7, .inl 0), (6, .inl (i : Int)), (5, .inl b), (4, .inl q), (0, .inr (.inr 11)), (1, .inl p), (2, .inr (.inr 25)), (3, .inl (N : Int))] [.inl (σ 11 4), .inl (0 - b), .inl q, .inr (.inr 11)] σ rfl ?_
          refine sw_callV k_X2_firstSlip rfl cV_X2_slipsAt ml_X2_42 ⟨by decide, by decide⟩ 11 rfl rfl [.inl q, .inl (0 - b), .inl (σ 11 4)] [] rfl rfl (Nat.le_of_ble_eq_true rfl) 50 rfl (sp_slipsAt σ hl0 hl1 hwt hD q (0 - b) (σ 11 4) (by omega) (by omega) (by omega)) (fun r5 σ6 hq7 => ?_)
          obtain ⟨rfl, ⟨p4, rfl⟩ | ⟨p4, rfl⟩⟩ := hq7
          · have hsl : (sw_sl (σ 11 1) (σ 11 2) (σ 11 3) (σ 1 0) (σ 25) N p (σ 11 4)) i := by unfold sw_sl; rw [← eq_ (by omega), ← eb_ (by omega), egx]; (exact p4)
            refine sw_blk k_X2_firstSlip 0 50 [(7, .inl 0), (6, .inl (i : Int)), (5, .inl b), (4, .inl q), (0, .inr (.inr 11)), (1, .inl p), (2, .inr (.inr 25)), (3, .inl (N : Int))] [.inl 1] σ rfl ?_
            refine sw_if_eq k_X2_firstSlip rfl (by decide) 58 53 (by decide) rfl (fun c => absurd c (by decide)) (fun _ => ?_)
            refine sw_blk k_X2_firstSlip 3 57 [(7, .inl 0), (6, .inl (i : Int)), (5, .inl b), (4, .inl q), (0, .inr (.inr 11)), (1, .inl p), (2, .inr (.inr 25)), (3, .inl (N : Int))] [.inl ((i : Int) + 1)] σ rfl ?_
            refine sw_ireturn k_X2_firstSlip rfl rfl ?_
            exact hQ _ (Or.inr ⟨by omega, Or.inl ⟨i, by omega, hsl, hno, rfl⟩⟩)
          · have hsl : ¬ (sw_sl (σ 11 1) (σ 11 2) (σ 11 3) (σ 1 0) (σ 25) N p (σ 11 4)) i := by unfold sw_sl; rw [← eq_ (by omega), ← eb_ (by omega), egx]; (exact p4)
            refine sw_blk k_X2_firstSlip 0 50 [(7, .inl 0), (6, .inl (i : Int)), (5, .inl b), (4, .inl q), (0, .inr (.inr 11)), (1, .inl p), (2, .inr (.inr 25)), (3, .inl (N : Int))] [.inl 0] σ rfl ?_
            refine sw_if_eq k_X2_firstSlip rfl (by decide) 58 53 (by decide) rfl (fun _ => ?_) (fun c => absurd (by decide) c)
            refine sw_blk k_X2_firstSlip 8 9 [(6, .inl ((i : Int) + 1)), (5, .inl 0), (4, .inl (q + 0)), (7, .inl 0), (0, .inr (.inr 11)), (1, .inl p), (2, .inr (.inr 25)), (3, .inl (N : Int))] [] σ rfl ?_
            refine sw_Lsub [(6, .inl ((i : Int) + 1)), (5, .inl 0), (4, .inl (q + 0)), (0, .inr (.inr 11)), (1, .inl p), (2, .inr (.inr 25)), (3, .inl (N : Int))] [0, 1, 2, 4, 5, 6, 7] rfl ?_
            rcases Nat.lt_or_ge i N with zz | zz
            · exact ih (i + 1) _ _ (by omega) (fun z => by rw [sw_pl, ← eq_ (by omega)] <;> omega) (fun z => by first | rfl | omega) (fun j hj => by rcases Nat.lt_or_ge j i with y | y; exact hno j y; rw [show j = i by omega]; exact hsl) (by omega)
            · exact ih (i + 1) _ _ (by omega) (fun z => by omega) (fun z => by omega) (fun j hj => by rcases Nat.lt_or_ge j i with y | y; exact hno j y; rw [show j = i by omega]; exact hsl) (by omega)
        · have egx : sw_gx (σ 25) N i = (σ 25 i) := by unfold sw_gx; rw [if_pos (by omega)]
          have hri := hr i (by omega)
          rw [← eq_ (by omega), ← eb_ (by omega), egx] at hri
          refine sw_blk k_X2_firstSlip 2 28 [(6, .inl (i : Int)), (5, .inl b), (4, .inl q), (0, .inr (.inr 11)), (1, .inl p), (2, .inr (.inr 25)), (3, .inl (N : Int))] [.inl (i : Int), .inr (.inr 25)] σ rfl ?_
          refine sw_iald k_X2_firstSlip rfl (i := 25) (n := 400) rfl (by decide) (by omega) (by omega) 29 rfl ?_
          refine sw_blk k_X2_firstSlip 9 47 [(7, .inl (σ 25 i)), (6, .inl (i : Int)), (5, .inl b), (4, .inl q), (0, .inr (.inr 11)), (1, .inl p), (2, .inr (.inr 25)), (3, .inl (N : Int))] [.inl (σ 11 4), .inl ((σ 25 i) - b), .inl q, .inr (.inr 11)] σ rfl ?_
          refine sw_callV k_X2_firstSlip rfl cV_X2_slipsAt ml_X2_42 ⟨by decide, by decide⟩ 11 rfl rfl [.inl q, .inl ((σ 25 i) - b), .inl (σ 11 4)] [] rfl rfl (Nat.le_of_ble_eq_true rfl) 50 rfl (sp_slipsAt σ hl0 hl1 hwt hD q ((σ 25 i) - b) (σ 11 4) (by omega) (by omega) (by omega)) (fun r9 σ10 hq11 => ?_)
          obtain ⟨rfl, ⟨p8, rfl⟩ | ⟨p8, rfl⟩⟩ := hq11
          · have hsl : (sw_sl (σ 11 1) (σ 11 2) (σ 11 3) (σ 1 0) (σ 25) N p (σ 11 4)) i := by unfold sw_sl; rw [← eq_ (by omega), ← eb_ (by omega), egx]; (exact p8)
            refine sw_blk k_X2_firstSlip 0 50 [(7, .inl (σ 25 i)), (6, .inl (i : Int)), (5, .inl b), (4, .inl q), (0, .inr (.inr 11)), (1, .inl p), (2, .inr (.inr 25)), (3, .inl (N : Int))] [.inl 1] σ rfl ?_
            refine sw_if_eq k_X2_firstSlip rfl (by decide) 58 53 (by decide) rfl (fun c => absurd c (by decide)) (fun _ => ?_)
            refine sw_blk k_X2_firstSlip 3 57 [(7, .inl (σ 25 i)), (6, .inl (i : Int)), (5, .inl b), (4, .inl q), (0, .inr (.inr 11)), (1, .inl p), (2, .inr (.inr 25)), (3, .inl (N : Int))] [.inl ((i : Int) + 1)] σ rfl ?_
            refine sw_ireturn k_X2_firstSlip rfl rfl ?_
            exact hQ _ (Or.inr ⟨by omega, Or.inl ⟨i, by omega, hsl, hno, rfl⟩⟩)
          · have hsl : ¬ (sw_sl (σ 11 1) (σ 11 2) (σ 11 3) (σ 1 0) (σ 25) N p (σ 11 4)) i := by unfold sw_sl; rw [← eq_ (by omega), ← eb_ (by omega), egx]; (exact p8)
            refine sw_blk k_X2_firstSlip 0 50 [(7, .inl (σ 25 i)), (6, .inl (i : Int)), (5, .inl b), (4, .inl q), (0, .inr (.inr 11)), (1, .inl p), (2, .inr (.inr 25)), (3, .inl (N : Int))] [.inl 0] σ rfl ?_
            refine sw_if_eq k_X2_firstSlip rfl (by decide) 58 53 (by decide) rfl (fun _ => ?_) (fun c => absurd (by decide) c)
            refine sw_blk k_X2_firstSlip 8 9 [(6, .inl ((i : Int) + 1)), (5, .inl (σ 25 i)), (4, .inl (q + (σ 25 i))), (7, .inl (σ 25 i)), (0, .inr (.inr 11)), (1, .inl p), (2, .inr (.inr 25)), (3, .inl (N : Int))] [] σ rfl ?_
            refine sw_Lsub [(6, .inl ((i : Int) + 1)), (5, .inl (σ 25 i)), (4, .inl (q + (σ 25 i))), (0, .inr (.inr 11)), (1, .inl p), (2, .inr (.inr 25)), (3, .inl (N : Int))] [0, 1, 2, 4, 5, 6, 7] rfl ?_
            rcases Nat.lt_or_ge i N with zz | zz
            · exact ih (i + 1) _ _ (by omega) (fun z => by rw [sw_pl, ← eq_ (by omega)] <;> omega) (fun z => by first | rfl | omega) (fun j hj => by rcases Nat.lt_or_ge j i with y | y; exact hno j y; rw [show j = i by omega]; exact hsl) (by omega)
            · exact ih (i + 1) _ _ (by omega) (fun z => by omega) (fun z => by omega) (fun j hj => by rcases Nat.lt_or_ge j i with y | y; exact hno j y; rw [show j = i by omega]; exact hsl) (by omega)
theorem sp_fslip (σ : sw_S) (hσ : sw_gs σ) (hl0 : 0 ≤ σ 11 1 ∧ σ 11 1 ≤ 1000) (hl1 : 0 ≤ σ 11 2 ∧ σ 11 2 ≤ 1000) (hwt : 0 ≤ σ 11 3 ∧ σ 11 3 ≤ 10) (hD : 10 ≤ σ 1 0 ∧ σ 1 0 ≤ 400) (hkp : 100 ≤ σ 11 4 ∧ σ 11 4 ≤ 400) (N : Nat) (p : Int) (hN : N ≤ 400) (hr : sw_rk (σ 1 0) (σ 25) N p) : sw_Con sw_ly sw_rho M_X2_firstSlip [.inr (.inr 11), .inl p, .inr (.inr 25), .inl (N : Int)] σ (fun r σ' => σ = σ' ∧ ∃ x : Int, r = some (.inl x) ∧ sw_fs (sw_sl (σ 11 1) (σ 11 2) (σ 11 3) (σ 1 0) (σ 25) N p (σ 11 4)) N x) := by
  refine sw_con (by decide) (Nat.le_of_ble_eq_true rfl) ?_
  refine sw_blk k_X2_firstSlip 6 9 [(6, .inl 0), (5, .inl 0), (4, .inl p), (0, .inr (.inr 11)), (1, .inl p), (2, .inr (.inr 25)), (3, .inl (N : Int))] [] σ rfl ?_
  exact lp_fslip σ hσ hl0 hl1 hwt hD hkp N p hN hr _ (fun x hx => ⟨rfl, x, rfl, hx⟩) 403 0 p 0 (by omega) (fun _ => rfl) (fun _ => rfl) (fun j hj => absurd hj (Nat.not_lt_zero j)) (by omega)
theorem lp_lrIn (σ : sw_S) (hσ : sw_gs σ) (hl0 : 0 ≤ σ 11 1 ∧ σ 11 1 ≤ 1000) (hl1 : 0 ≤ σ 11 2 ∧ σ 11 2 ≤ 1000) (hwt : 0 ≤ σ 11 3 ∧ σ 11 3 ≤ 10) (hD : 10 ≤ σ 1 0 ∧ σ 1 0 ≤ 400) (N : Nat) (p : Int) (hN : N ≤ 400) (hr : sw_rk (σ 1 0) (σ 25) N p) (i : Nat) (hi : i ≤ N) (q b sp : Int) (eq_ : q = sw_pl (σ 25) p i) (eb_ : b = sw_pv (σ 25) i) (egx : sw_gx (σ 25) N i = sp) (m0 : Int) (Q : Option sw_Vl → sw_S → Prop) (hQ : ∀ m : Int, m0 ≤ m → 100 ≤ m → m ≤ 401 → (m ≤ 400 → ¬ (sw_sl (σ 11 1) (σ 11 2) (σ 11 3) (σ 1 0) (σ 25) N p m) i) → (∀ k, m0 ≤ k → k < m → (sw_sl (σ 11 1) (σ 11 2) (σ 11 3) (σ 1 0) (σ 25) N p k) i) → sw_E sw_ly sw_rho M_X2_leastRatio 69 [(4, .inl m), (8, .inl sp), (7, .inl (i : Int)), (6, .inl b), (5, .inl q), (0, .inr (.inr 11)), (1, .inl p), (2, .inr (.inr 25)), (3, .inl (N : Int))] [] σ Q) : ∀ (n : Nat) (m : Int), m0 ≤ m → 100 ≤ m → m ≤ 401 → (∀ k, m0 ≤ k → k < m → (sw_sl (σ 11 1) (σ 11 2) (σ 11 3) (σ 1 0) (σ 25) N p k) i) → (402 - m).toNat < n → sw_E sw_ly sw_rho M_X2_leastRatio 39 [(4, .inl m), (8, .inl sp), (7, .inl (i : Int)), (6, .inl b), (5, .inl q), (0, .inr (.inr 11)), (1, .inl p), (2, .inr (.inr 25)), (3, .inl (N : Int))] [] σ Q := by
  intro n
  induction n with
  | zero =>
    intro m h0 h1 h2 h3 hn
    omega
  | succ n ih =>
    intro m h0 h1 h2 h3 hn
    have hri := hr i hi
    rw [← eq_, ← eb_, egx] at hri
    refine sw_blk k_X2_leastRatio 2 44 [(4, .inl m), (8, .inl sp), (7, .inl (i : Int)), (6, .inl b), (5, .inl q), (0, .inr (.inr 11)), (1, .inl p), (2, .inr (.inr 25)), (3, .inl (N : Int))] [.inl 400, .inl m] σ rfl ?_
    refine sw_icmp_gt k_X2_leastRatio rfl (by omega) (by decide) 69 47 (by decide) rfl (fun c1 => ?_) (fun c1 => ?_)
    · exact hQ m h0 h1 h2 (fun z => by first | omega | exact hsl) h3
    · refine sw_blk k_X2_leastRatio 6 57 [(4, .inl m), (8, .inl sp), (7, .inl (i : Int)), (6, .inl b), (5, .inl q), (0, .inr (.inr 11)), (1, .inl p), (2, .inr (.inr 25)), (3, .inl (N : Int))] [.inl m, .inl (sp - b), .inl q, .inr (.inr 11)] σ rfl ?_
      refine sw_callV k_X2_leastRatio rfl cV_X2_slipsAt ml_X2_42 ⟨by decide, by decide⟩ 11 rfl rfl [.inl q, .inl (sp - b), .inl m] [] rfl rfl (Nat.le_of_ble_eq_true rfl) 60 rfl (sp_slipsAt σ hl0 hl1 hwt hD q (sp - b) m (by omega) (by omega) (by omega)) (fun r3 σ4 hq5 => ?_)
      obtain ⟨rfl, ⟨p2, rfl⟩ | ⟨p2, rfl⟩⟩ := hq5
      · have hsl : (sw_sl (σ 11 1) (σ 11 2) (σ 11 3) (σ 1 0) (σ 25) N p m) i := by unfold sw_sl; rw [← eq_, ← eb_, egx]; exact p2
        refine sw_blk k_X2_leastRatio 0 60 [(4, .inl m), (8, .inl sp), (7, .inl (i : Int)), (6, .inl b), (5, .inl q), (0, .inr (.inr 11)), (1, .inl p), (2, .inr (.inr 25)), (3, .inl (N : Int))] [.inl 1] σ rfl ?_
        refine sw_if_eq k_X2_leastRatio rfl (by decide) 69 63 (by decide) rfl (fun c => absurd c (by decide)) (fun _ => ?_)
        refine sw_blk k_X2_leastRatio 2 39 [(4, .inl (m + 1)), (8, .inl sp), (7, .inl (i : Int)), (6, .inl b), (5, .inl q), (0, .inr (.inr 11)), (1, .inl p), (2, .inr (.inr 25)), (3, .inl (N : Int))] [] σ rfl ?_
        exact ih (m + 1) (by omega) (by omega) (by omega) (fun k k1 k2 => by rcases Int.lt_or_le k m with y | y; exact h3 k k1 y; rw [show k = m by omega]; exact hsl) (by omega)
      · have hsl : ¬ (sw_sl (σ 11 1) (σ 11 2) (σ 11 3) (σ 1 0) (σ 25) N p m) i := by unfold sw_sl; rw [← eq_, ← eb_, egx]; exact p2
        refine sw_blk k_X2_leastRatio 0 60 [(4, .inl m), (8, .inl sp), (7, .inl (i : Int)), (6, .inl b), (5, .inl q), (0, .inr (.inr 11)), (1, .inl p), (2, .inr (.inr 25)), (3, .inl (N : Int))] [.inl 0] σ rfl ?_
        refine sw_if_eq k_X2_leastRatio rfl (by decide) 69 63 (by decide) rfl (fun _ => ?_) (fun c => absurd (by decide) c)
        exact hQ m h0 h1 h2 (fun z => by first | omega | exact hsl) h3
theorem lp_lrOut (σ : sw_S) (hσ : sw_gs σ) (hl0 : 0 ≤ σ 11 1 ∧ σ 11 1 ≤ 1000) (hl1 : 0 ≤ σ 11 2 ∧ σ 11 2 ≤ 1000) (hwt : 0 ≤ σ 11 3 ∧ σ 11 3 ≤ 10) (hD : 10 ≤ σ 1 0 ∧ σ 1 0 ≤ 400) (N : Nat) (p : Int) (hN : N ≤ 400) (hr : sw_rk (σ 1 0) (σ 25) N p) (Q : Option sw_Vl → sw_S → Prop) (hQ : ∀ x : Int, sw_lr (fun k => (sw_sl (σ 11 1) (σ 11 2) (σ 11 3) (σ 1 0) (σ 25) N p k)) N x → Q (some (.inl x)) σ) : ∀ (n : Nat) (i : Nat) (q b m : Int), (i ≤ N + 1 ∧ (N = 0 → i = 0)) → (i ≤ N → q = sw_pl (σ 25) p i) → (i ≤ N → b = sw_pv (σ 25) i) → 100 ≤ m → m ≤ 401 → (m ≤ 400 → ∀ j, j < i → ¬ (sw_sl (σ 11 1) (σ 11 2) (σ 11 3) (σ 1 0) (σ 25) N p m) j) → (∀ k, 100 ≤ k → k < m → ∃ j, j < i ∧ (sw_sl (σ 11 1) (σ 11 2) (σ 11 3) (σ 1 0) (σ 25) N p k) j) → 402 - i < n → sw_E sw_ly sw_rho M_X2_leastRatio 13 [(7, .inl (i : Int)), (6, .inl b), (5, .inl q), (4, .inl m), (0, .inr (.inr 11)), (1, .inl p), (2, .inr (.inr 25)), (3, .inl (N : Int))] [] σ Q := by
  intro n
  induction n with
  | zero =>
    intro i q b m hi eq_ eb_ h1 h2 hok hbad hn
    omega
  | succ n ih =>
    intro i q b m hi eq_ eb_ h1 h2 hok hbad hn
    refine sw_blk k_X2_leastRatio 2 16 [(7, .inl (i : Int)), (6, .inl b), (5, .inl q), (4, .inl m), (0, .inr (.inr 11)), (1, .inl p), (2, .inr (.inr 25)), (3, .inl (N : Int))] [.inl (N : Int), .inl (i : Int)] σ rfl ?_
    refine sw_icmp_gt k_X2_leastRatio rfl (by omega) (by omega) 86 19 (by decide) rfl (fun c1 => ?_) (fun c1 => ?_)
    · refine sw_blk k_X2_leastRatio 2 91 [(7, .inl (i : Int)), (6, .inl b), (5, .inl q), (4, .inl m), (0, .inr (.inr 11)), (1, .inl p), (2, .inr (.inr 25)), (3, .inl (N : Int))] [.inl 400, .inl m] σ rfl ?_
      refine sw_icmp_le k_X2_leastRatio rfl (by omega) (by decide) 98 94 (by decide) rfl (fun c2 => ?_) (fun c2 => ?_)
      · refine sw_blk k_X2_leastRatio 1 100 [(7, .inl (i : Int)), (6, .inl b), (5, .inl q), (4, .inl m), (0, .inr (.inr 11)), (1, .inl p), (2, .inr (.inr 25)), (3, .inl (N : Int))] [.inl m] σ rfl ?_
        refine sw_ireturn k_X2_leastRatio rfl rfl ?_
        refine hQ _ (Or.inl ⟨h1, by omega, fun j j0 j1 => hok (by omega) j (by omega), fun k k1 k2 => ?_⟩)
        obtain ⟨j, j1, j2⟩ := hbad k k1 k2
        exact ⟨j, by omega, by omega, j2⟩
      · refine sw_blk k_X2_leastRatio 2 100 [(7, .inl (i : Int)), (6, .inl b), (5, .inl q), (4, .inl m), (0, .inr (.inr 11)), (1, .inl p), (2, .inr (.inr 25)), (3, .inl (N : Int))] [.inl (-1)] σ rfl ?_
        refine sw_ireturn k_X2_leastRatio rfl rfl ?_
        refine hQ _ (Or.inr ⟨rfl, fun k k1 k2 => ?_⟩)
        obtain ⟨j, j1, j2⟩ := hbad k k1 (by omega)
        exact ⟨j, by omega, by omega, j2⟩
    · refine sw_blk k_X2_leastRatio 1 20 [(7, .inl (i : Int)), (6, .inl b), (5, .inl q), (4, .inl m), (0, .inr (.inr 11)), (1, .inl p), (2, .inr (.inr 25)), (3, .inl (N : Int))] [.inl (N : Int)] σ rfl ?_
      refine sw_if_le k_X2_leastRatio rfl (by omega) 86 23 (by decide) rfl (fun c3 => ?_) (fun c3 => ?_)
      · refine sw_blk k_X2_leastRatio 2 91 [(7, .inl (i : Int)), (6, .inl b), (5, .inl q), (4, .inl m), (0, .inr (.inr 11)), (1, .inl p), (2, .inr (.inr 25)), (3, .inl (N : Int))] [.inl 400, .inl m] σ rfl ?_
        refine sw_icmp_le k_X2_leastRatio rfl (by omega) (by decide) 98 94 (by decide) rfl (fun c4 => ?_) (fun c4 => ?_)
        · refine sw_blk k_X2_leastRatio 1 100 [(7, .inl (i : Int)), (6, .inl b), (5, .inl q), (4, .inl m), (0, .inr (.inr 11)), (1, .inl p), (2, .inr (.inr 25)), (3, .inl (N : Int))] [.inl m] σ rfl ?_
          refine sw_ireturn k_X2_leastRatio rfl rfl ?_
          refine hQ _ (Or.inl ⟨h1, by omega, fun j j0 j1 => hok (by omega) j (by omega), fun k k1 k2 => ?_⟩)
          obtain ⟨j, j1, j2⟩ := hbad k k1 k2
          exact ⟨j, by omega, by omega, j2⟩
        · refine sw_blk k_X2_leastRatio 2 100 [(7, .inl (i : Int)), (6, .inl b), (5, .inl q), (4, .inl m), (0, .inr (.inr 11)), (1, .inl p), (2, .inr (.inr 25)), (3, .inl (N : Int))] [.inl (-1)] σ rfl ?_
          refine sw_ireturn k_X2_leastRatio rfl rfl ?_
          refine hQ _ (Or.inr ⟨rfl, fun k k1 k2 => ?_⟩)
          obtain ⟨j, j1, j2⟩ := hbad k k1 (by omega)
          exact ⟨j, by omega, by omega, j2⟩
      · refine sw_blk k_X2_leastRatio 2 26 [(7, .inl (i : Int)), (6, .inl b), (5, .inl q), (4, .inl m), (0, .inr (.inr 11)), (1, .inl p), (2, .inr (.inr 25)), (3, .inl (N : Int))] [.inl (N : Int), .inl (i : Int)] σ rfl ?_
        refine sw_icmp_ge k_X2_leastRatio rfl (by omega) (by omega) 36 29 (by decide) rfl (fun c5 => ?_) (fun c5 => ?_)
        · have egx : sw_gx (σ 25) N i = 0 := by unfold sw_gx; rw [if_neg (by omega)]
          refine sw_blk k_X2_leastRatio 2 39 [(8, .inl 0), (7, .inl (i : Int)), (6, .inl b), (5, .inl q), (4, .inl m), (0, .inr (.inr 11)), (1, .inl p), (2, .inr (.inr 25)), (3, .inl (N : Int))] [] σ rfl ?_
          refine sw_Lsub [(4, .inl m), (8, .inl 0), (7, .inl (i : Int)), (6, .inl b), (5, .inl q), (0, .inr (.inr 11)), (1, .inl p), (2, .inr (.inr 25)), (3, .inl (N : Int))] [4, 0, 1, 2, 3, 5, 6, 7, 8] rfl ?_
          refine lp_lrIn σ hσ hl0 hl1 hwt hD N p hN hr i (by omega) q b 0 (eq_ (by omega)) (eb_ (by omega)) egx m Q (fun m2 y0 y1 y2 y3 y4 => ?_) 303 m (by omega) h1 h2 (fun k k1 k2 => by omega) (by omega)
          refine sw_blk k_X2_leastRatio 8 13 [(7, .inl ((i : Int) + 1)), (6, .inl 0), (5, .inl (q + 0)), (4, .inl m2), (8, .inl 0), (0, .inr (.inr 11)), (1, .inl p), (2, .inr (.inr 25)), (3, .inl (N : Int))] [] σ rfl ?_
          refine sw_Lsub [(7, .inl ((i : Int) + 1)), (6, .inl 0), (5, .inl (q + 0)), (4, .inl m2), (0, .inr (.inr 11)), (1, .inl p), (2, .inr (.inr 25)), (3, .inl (N : Int))] [0, 1, 2, 3, 5, 6, 7, 8] rfl ?_
          have bnd : ∀ j, j ≤ N → 0 ≤ sw_q0 (σ 11 1) (σ 11 3) (sw_pl (σ 25) p j) (sw_gx (σ 25) N j - sw_pv (σ 25) j) ∧ 0 ≤ sw_q1 (σ 11 2) (σ 11 3) (σ 1 0) (sw_pl (σ 25) p j) (sw_gx (σ 25) N j - sw_pv (σ 25) j) := fun j hj => by
            have z := hr j hj
            exact ⟨(sw_q0b hl0 hwt (by omega) z.2).1, (sw_q1b hl1 hwt (by omega) z.2).1⟩
          refine ih (i + 1) _ _ m2 (by omega) (fun z => by omega) (fun z => by omega) y1 y2 (fun z j hj => ?_) (fun k k1 k2 => ?_) (by omega)
          · rcases Nat.lt_or_ge j i with y | y
            · intro w1; exact hok (by omega) j y (sw_slp_mono (bnd j (by omega)).1 (bnd j (by omega)).2 y0 w1)
            · rw [show j = i by omega]; exact y3 z
          · rcases Int.lt_or_le k m with y | y
            · obtain ⟨j, j1, j2⟩ := hbad k k1 y; exact ⟨j, by omega, j2⟩
            · exact ⟨i, by omega, y4 k y k2⟩
        · have egx : sw_gx (σ 25) N i = (σ 25 i) := by unfold sw_gx; rw [if_pos (by omega)]
          refine sw_blk k_X2_leastRatio 2 32 [(7, .inl (i : Int)), (6, .inl b), (5, .inl q), (4, .inl m), (0, .inr (.inr 11)), (1, .inl p), (2, .inr (.inr 25)), (3, .inl (N : Int))] [.inl (i : Int), .inr (.inr 25)] σ rfl ?_
          refine sw_iald k_X2_leastRatio rfl (i := 25) (n := 400) rfl (by decide) (by omega) (by omega) 33 rfl ?_
          refine sw_blk k_X2_leastRatio 2 39 [(8, .inl (σ 25 i)), (7, .inl (i : Int)), (6, .inl b), (5, .inl q), (4, .inl m), (0, .inr (.inr 11)), (1, .inl p), (2, .inr (.inr 25)), (3, .inl (N : Int))] [] σ rfl ?_
          refine sw_Lsub [(4, .inl m), (8, .inl (σ 25 i)), (7, .inl (i : Int)), (6, .inl b), (5, .inl q), (0, .inr (.inr 11)), (1, .inl p), (2, .inr (.inr 25)), (3, .inl (N : Int))] [4, 0, 1, 2, 3, 5, 6, 7, 8] rfl ?_
          refine lp_lrIn σ hσ hl0 hl1 hwt hD N p hN hr i (by omega) q b (σ 25 i) (eq_ (by omega)) (eb_ (by omega)) egx m Q (fun m2 y0 y1 y2 y3 y4 => ?_) 303 m (by omega) h1 h2 (fun k k1 k2 => by omega) (by omega)
          refine sw_blk k_X2_leastRatio 8 13 [(7, .inl ((i : Int) + 1)), (6, .inl (σ 25 i)), (5, .inl (q + (σ 25 i))), (4, .inl m2), (8, .inl (σ 25 i)), (0, .inr (.inr 11)), (1, .inl p), (2, .inr (.inr 25)), (3, .inl (N : Int))] [] σ rfl ?_
          refine sw_Lsub [(7, .inl ((i : Int) + 1)), (6, .inl (σ 25 i)), (5, .inl (q + (σ 25 i))), (4, .inl m2), (0, .inr (.inr 11)), (1, .inl p), (2, .inr (.inr 25)), (3, .inl (N : Int))] [0, 1, 2, 3, 5, 6, 7, 8] rfl ?_
          have bnd : ∀ j, j ≤ N → 0 ≤ sw_q0 (σ 11 1) (σ 11 3) (sw_pl (σ 25) p j) (sw_gx (σ 25) N j - sw_pv (σ 25) j) ∧ 0 ≤ sw_q1 (σ 11 2) (σ 11 3) (σ 1 0) (sw_pl (σ 25) p j) (sw_gx (σ 25) N j - sw_pv (σ 25) j) := fun j hj => by
            have z := hr j hj
            exact ⟨(sw_q0b hl0 hwt (by omega) z.2).1, (sw_q1b hl1 hwt (by omega) z.2).1⟩
          refine ih (i + 1) _ _ m2 (by omega) (fun z => by rw [sw_pl, ← eq_ (by omega)]) (fun z => by rfl) y1 y2 (fun z j hj => ?_) (fun k k1 k2 => ?_) (by omega)
          · rcases Nat.lt_or_ge j i with y | y
            · intro w1; exact hok (by omega) j y (sw_slp_mono (bnd j (by omega)).1 (bnd j (by omega)).2 y0 w1)
            · rw [show j = i by omega]; exact y3 z
          · rcases Int.lt_or_le k m with y | y
            · obtain ⟨j, j1, j2⟩ := hbad k k1 y; exact ⟨j, by omega, j2⟩
            · exact ⟨i, by omega, y4 k y k2⟩
theorem sp_lratio (σ : sw_S) (hσ : sw_gs σ) (hl0 : 0 ≤ σ 11 1 ∧ σ 11 1 ≤ 1000) (hl1 : 0 ≤ σ 11 2 ∧ σ 11 2 ≤ 1000) (hwt : 0 ≤ σ 11 3 ∧ σ 11 3 ≤ 10) (hD : 10 ≤ σ 1 0 ∧ σ 1 0 ≤ 400) (N : Nat) (p : Int) (hN : N ≤ 400) (hr : sw_rk (σ 1 0) (σ 25) N p) : sw_Con sw_ly sw_rho M_X2_leastRatio [.inr (.inr 11), .inl p, .inr (.inr 25), .inl (N : Int)] σ (fun r σ' => σ = σ' ∧ ∃ x : Int, r = some (.inl x) ∧ sw_lr (fun k => (sw_sl (σ 11 1) (σ 11 2) (σ 11 3) (σ 1 0) (σ 25) N p k)) N x) := by
  refine sw_con (by decide) (Nat.le_of_ble_eq_true rfl) ?_
  refine sw_blk k_X2_leastRatio 8 13 [(7, .inl 0), (6, .inl 0), (5, .inl p), (4, .inl 100), (0, .inr (.inr 11)), (1, .inl p), (2, .inr (.inr 25)), (3, .inl (N : Int))] [] σ rfl ?_
  exact lp_lrOut σ hσ hl0 hl1 hwt hD N p hN hr _ (fun x hx => ⟨rfl, x, rfl, hx⟩) 403 0 p 0 100 ⟨by omega, fun _ => rfl⟩ (fun _ => rfl) (fun _ => rfl) (by omega) (by omega) (fun _ j hj => absurd hj (Nat.not_lt_zero j)) (fun k k1 k2 => by omega) (by omega)
