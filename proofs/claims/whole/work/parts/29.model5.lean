theorem sw_aw_g {fr to sp : Nat → Int} {top D x : Int} (h1 : ∀ z, sw_g (sp z)) (h2 : sw_g top) : ∀ n, sw_g (sw_aw fr to sp top D x n).1
  | 0 => h2
  | n + 1 => by
    rw [sw_aw]
    split
    · split
      · exact h1 n
      · split
        · exact h1 n
        · exact sw_aw_g h1 h2 n
    · exact sw_aw_g h1 h2 n
/-- the limits as the reference reckons them -/
def sw_lm (σ : sw_S) (j : Nat) : Int := if (sw_aw (σ 27) (σ 28) (σ 29) (σ 26 1) (σ 26 0) (j : Int) (σ 26 3).toNat).1 < σ 26 1 then (sw_aw (σ 27) (σ 28) (σ 29) (σ 26 1) (σ 26 0) (j : Int) (σ 26 3).toNat).1 else σ 26 1
theorem sw_lm_g {σ : sw_S} (h : sw_gs σ) (j : Nat) : sw_g (sw_lm σ j) := by
  unfold sw_lm
  split
  · exact sw_aw_g (fun z => h 29 z) (h 26 1) _
  · exact h 26 1
theorem sw_tk_down {lim : Nat → Int} {D V p s t u : Int} (hs : s = 1 ∨ s = -1) (hp : 0 ≤ p ∧ p ≤ D) (h0 : 0 ≤ u) (h1 : u ≤ t) (h : sw_tk lim D V p (s * t)) : sw_tk lim D V p (s * u) := by
  have e1 : sw_abs (s * t) = t := by unfold sw_abs; rcases hs with rfl | rfl <;> split <;> omega
  have e2 : sw_abs (s * u) = u := by unfold sw_abs; rcases hs with rfl | rfl <;> split <;> omega
  obtain ⟨a1, a2, a3, a4⟩ := h
  rw [e1] at a1 a4
  refine ⟨by rw [e2]; omega, by rcases hs with rfl | rfl <;> omega, by rcases hs with rfl | rfl <;> omega, fun x hx => ?_⟩
  rw [e2]
  have := a4 x (by rcases hs with rfl | rfl <;> omega)
  omega
theorem lp_look (σ : sw_S) (hσ : sw_gs σ) (hz : 0 ≤ σ 26 3 ∧ σ 26 3 ≤ 6) (hD : 10 ≤ σ 26 0 ∧ σ 26 0 ≤ 400) (Q : Option sw_Vl → sw_S → Prop) (hQ : Q none (sw_pf σ 35 (sw_lm σ) ((σ 26 0).toNat + 1))) : ∀ (n : Nat) (i : Nat), (i : Int) ≤ σ 26 0 + 1 → 402 - i < n → sw_E sw_ly sw_rho M_X8_lookAtZones 2 [(1, .inl (i : Int)), (0, .inr (.inr 26))] [] (sw_pf σ 35 (sw_lm σ) i) Q := by
  intro n
  induction n with
  | zero =>
    intro i hi hn
    omega
  | succ n ih =>
    intro i hi hn
    refine sw_blk k_X8_lookAtZones 3 7 [(1, .inl (i : Int)), (0, .inr (.inr 26))] [.inl ((sw_pf σ 35 (sw_lm σ) i) 26 0), .inl (i : Int)] (sw_pf σ 35 (sw_lm σ) i) rfl ?_
    refine sw_icmp_gt k_X8_lookAtZones rfl (by omega) (by first | exact hσ 26 0 | exact hσ 26 1) 44 10 (by decide) rfl (fun c1 => ?_) (fun c1 => ?_)
    · have c1 : (σ 26 0 : Int) < (i : Int) := c1
      refine sw_vreturn k_X8_lookAtZones rfl rfl ?_
      have e : (σ 26 0).toNat + 1 = i := by omega
      rw [e] at hQ
      exact hQ
    · have c1 : ¬ (σ 26 0 : Int) < (i : Int) := c1
      refine sw_blk k_X8_lookAtZones 2 12 [(1, .inl (i : Int)), (0, .inr (.inr 26))] [.inl (i : Int), .inr (.inr 26)] (sw_pf σ 35 (sw_lm σ) i) rfl ?_
      refine sw_callV k_X8_lookAtZones rfl cV_X8_allowed ml_X8_107 ⟨by decide, by decide⟩ 26 rfl rfl [.inl (i : Int)] [] rfl rfl (Nat.le_of_ble_eq_true rfl) 15 rfl (sp_allowed (sw_pf σ 35 (sw_lm σ) i) (sw_pf_gs hσ 35 i (fun j _ => sw_lm_g hσ j)) hz hD (i : Int) (by omega)) (fun r2 σ3 hq4 => ?_)
      obtain ⟨rfl, rfl⟩ := hq4
      refine sw_blk k_X8_lookAtZones 7 26 [(2, .inl ((sw_aw (σ 27) (σ 28) (σ 29) (σ 26 1) (σ 26 0) (i : Int) (σ 26 3).toNat).1)), (1, .inl (i : Int)), (0, .inr (.inr 26))] [.inl ((sw_pf σ 35 (sw_lm σ) i) 26 1), .inl ((sw_aw (σ 27) (σ 28) (σ 29) (σ 26 1) (σ 26 0) (i : Int) (σ 26 3).toNat).1), .inl (i : Int), .inr (.inr 35)] (sw_pf σ 35 (sw_lm σ) i) rfl ?_
      refine sw_icmp_ge k_X8_lookAtZones rfl (sw_aw_g (fun z => hσ 29 z) (hσ 26 1) _) (by first | exact hσ 26 0 | exact hσ 26 1) 33 29 (by decide) rfl (fun c5 => ?_) (fun c5 => ?_)
      · have c5 : σ 26 1 ≤ (sw_aw (σ 27) (σ 28) (σ 29) (σ 26 1) (σ 26 0) (i : Int) (σ 26 3).toNat).1 := c5
        have cx : ¬ (sw_aw (σ 27) (σ 28) (σ 29) (σ 26 1) (σ 26 0) (i : Int) (σ 26 3).toNat).1 < σ 26 1 := by omega
        refine sw_blk k_X8_lookAtZones 2 37 [(2, .inl ((sw_aw (σ 27) (σ 28) (σ 29) (σ 26 1) (σ 26 0) (i : Int) (σ 26 3).toNat).1)), (1, .inl (i : Int)), (0, .inr (.inr 26))] [.inl ((sw_pf σ 35 (sw_lm σ) i) 26 1), .inl (i : Int), .inr (.inr 35)] (sw_pf σ 35 (sw_lm σ) i) rfl ?_
        refine sw_iast k_X8_lookAtZones rfl (i := 35) (n := 401) rfl (by decide) (by omega) (by omega) 38 rfl ?_
        refine sw_blk k_X8_lookAtZones 2 2 [(1, .inl ((i : Int) + 1)), (2, .inl ((sw_aw (σ 27) (σ 28) (σ 29) (σ 26 1) (σ 26 0) (i : Int) (σ 26 3).toNat).1)), (0, .inr (.inr 26))] [] (sw_u (sw_pf σ 35 (sw_lm σ) i) 35 i ((sw_pf σ 35 (sw_lm σ) i) 26 1)) rfl ?_
        refine sw_Lsub [(1, .inl ((i : Int) + 1)), (0, .inr (.inr 26))] [0, 2] rfl ?_
        rw [sw_pf_s σ 35 (sw_lm σ) i (by unfold sw_lm; first | (rw [if_pos (by assumption)]; done) | (rw [if_neg (by omega)]; rfl) | (rw [if_neg (by assumption)]; rfl) | (rw [if_pos (by omega)]; rfl))]
        exact ih (i + 1) (by omega) (by omega)
      · have c5 : ¬ σ 26 1 ≤ (sw_aw (σ 27) (σ 28) (σ 29) (σ 26 1) (σ 26 0) (i : Int) (σ 26 3).toNat).1 := c5
        have cx : (sw_aw (σ 27) (σ 28) (σ 29) (σ 26 1) (σ 26 0) (i : Int) (σ 26 3).toNat).1 < σ 26 1 := by omega
        refine sw_blk k_X8_lookAtZones 2 37 [(2, .inl ((sw_aw (σ 27) (σ 28) (σ 29) (σ 26 1) (σ 26 0) (i : Int) (σ 26 3).toNat).1)), (1, .inl (i : Int)), (0, .inr (.inr 26))] [.inl ((sw_aw (σ 27) (σ 28) (σ 29) (σ 26 1) (σ 26 0) (i : Int) (σ 26 3).toNat).1), .inl (i : Int), .inr (.inr 35)] (sw_pf σ 35 (sw_lm σ) i) rfl ?_
        refine sw_iast k_X8_lookAtZones rfl (i := 35) (n := 401) rfl (by decide) (by omega) (by omega) 38 rfl ?_
        refine sw_blk k_X8_lookAtZones 2 2 [(1, .inl ((i : Int) + 1)), (2, .inl ((sw_aw (σ 27) (σ 28) (σ 29) (σ 26 1) (σ 26 0) (i : Int) (σ 26 3).toNat).1)), (0, .inr (.inr 26))] [] (sw_u (sw_pf σ 35 (sw_lm σ) i) 35 i ((sw_aw (σ 27) (σ 28) (σ 29) (σ 26 1) (σ 26 0) (i : Int) (σ 26 3).toNat).1)) rfl ?_
        refine sw_Lsub [(1, .inl ((i : Int) + 1)), (0, .inr (.inr 26))] [0, 2] rfl ?_
        rw [sw_pf_s σ 35 (sw_lm σ) i (by unfold sw_lm; first | (rw [if_pos (by assumption)]; done) | (rw [if_neg (by omega)]; rfl) | (rw [if_neg (by assumption)]; rfl) | (rw [if_pos (by omega)]; rfl))]
        exact ih (i + 1) (by omega) (by omega)
theorem sp_look (σ : sw_S) (hσ : sw_gs σ) (hz : 0 ≤ σ 26 3 ∧ σ 26 3 ≤ 6) (hD : 10 ≤ σ 26 0 ∧ σ 26 0 ≤ 400) : sw_Con sw_ly sw_rho M_X8_lookAtZones [.inr (.inr 26)] σ (fun r σ' => (sw_pf σ 35 (sw_lm σ) ((σ 26 0).toNat + 1)) = σ' ∧ r = none) := by
  refine sw_con (by decide) (Nat.le_of_ble_eq_true rfl) ?_
  refine sw_blk k_X8_lookAtZones 2 2 [(1, .inl 0), (0, .inr (.inr 26))] [] σ rfl ?_
  have h := lp_look σ hσ hz hD (fun r σ' => (sw_pf σ 35 (sw_lm σ) ((σ 26 0).toNat + 1)) = σ' ∧ r = none) ⟨rfl, rfl⟩ 403 0 (by omega) (by omega)
  rw [sw_pf_0] at h
  exact h
