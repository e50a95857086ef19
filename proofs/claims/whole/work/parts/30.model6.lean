theorem lp_mMost (σ : sw_S) (hσ : sw_gs σ) (p s : Int) (hs : s = 1 ∨ s = -1) (hp : 0 ≤ p ∧ p ≤ σ 26 0) (hD : 10 ≤ σ 26 0 ∧ σ 26 0 ≤ 400) (hV : 1 ≤ σ 26 1 ∧ σ 26 1 ≤ 20) (Q : Option sw_Vl → sw_S → Prop) (hQ : ∀ g : Int, 0 ≤ g → g ≤ σ 26 1 → (∀ t, 0 ≤ t → (sw_tk (σ 35) (σ 26 0) (σ 26 1) p (s * t) ↔ t ≤ g)) → Q (some (.inl g)) σ) : ∀ (n : Nat) (v : Int), (0 ≤ v ∧ v ≤ σ 26 1) → sw_tk (σ 35) (σ 26 0) (σ 26 1) p (s * v) → (21 - v).toNat < n → sw_E sw_ly sw_rho M_X8_most 27 [(3, .inl v), (0, .inr (.inr 26)), (1, .inl p), (2, .inl s)] [] σ Q := by
  intro n
  induction n with
  | zero =>
    intro v hv0 hv hn
    omega
  | succ n ih =>
    intro v hv0 hv hn
    refine sw_blk k_X8_most 3 32 [(3, .inl v), (0, .inr (.inr 26)), (1, .inl p), (2, .inl s)] [.inl (σ 26 1), .inl v] σ rfl ?_
    refine sw_icmp_ge k_X8_most rfl (by omega) (hσ 26 _) 54 35 (by decide) rfl (fun c1 => ?_) (fun c1 => ?_)
    · refine sw_blk k_X8_most 1 55 [(3, .inl v), (0, .inr (.inr 26)), (1, .inl p), (2, .inl s)] [.inl v] σ rfl ?_
      refine sw_ireturn k_X8_most rfl rfl ?_
      refine hQ v (by omega) (by omega) (fun t ht => ⟨fun h9 => ?_, fun h9 => sw_tk_down hs hp ht h9 hv⟩)
      rcases Int.lt_or_le v t with zz | zz
      · exfalso
        first
        | exact htk (sw_tk_down hs hp (by omega) (by omega) h9)
        | (have z1 := h9.1; unfold sw_abs at z1; rcases hs with rfl | rfl <;> omega)
      · exact zz
    · refine sw_blk k_X8_most 7 42 [(3, .inl v), (0, .inr (.inr 26)), (1, .inl p), (2, .inl s)] [.inl (s * (v + 1)), .inl p, .inr (.inr 26)] σ rfl ?_
      refine sw_callV k_X8_most rfl cV_X8_isTick ml_X8_114 ⟨by decide, by decide⟩ 26 rfl rfl [.inl p, .inl (s * (v + 1))] [] rfl rfl (Nat.le_of_ble_eq_true rfl) 45 rfl (sp_isTick σ hσ p (s * (v + 1)) hp hD hV (by rcases hs with rfl | rfl <;> omega)) (fun r3 σ4 hq5 => ?_)
      obtain ⟨rfl, ⟨p2, rfl⟩ | ⟨p2, rfl⟩⟩ := hq5
      · have htk := p2
        refine sw_blk k_X8_most 0 45 [(3, .inl v), (0, .inr (.inr 26)), (1, .inl p), (2, .inl s)] [.inl 1] σ rfl ?_
        refine sw_if_eq k_X8_most rfl (by decide) 54 48 (by decide) rfl (fun c => absurd c (by decide)) (fun _ => ?_)
        refine sw_blk k_X8_most 2 27 [(3, .inl (v + 1)), (0, .inr (.inr 26)), (1, .inl p), (2, .inl s)] [] σ rfl ?_
        exact ih (v + 1) (by omega) htk (by omega)
      · have htk := p2
        refine sw_blk k_X8_most 0 45 [(3, .inl v), (0, .inr (.inr 26)), (1, .inl p), (2, .inl s)] [.inl 0] σ rfl ?_
        refine sw_if_eq k_X8_most rfl (by decide) 54 48 (by decide) rfl (fun _ => ?_) (fun c => absurd (by decide) c)
        refine sw_blk k_X8_most 1 55 [(3, .inl v), (0, .inr (.inr 26)), (1, .inl p), (2, .inl s)] [.inl v] σ rfl ?_
        refine sw_ireturn k_X8_most rfl rfl ?_
        refine hQ v (by omega) (by omega) (fun t ht => ⟨fun h9 => ?_, fun h9 => sw_tk_down hs hp ht h9 hv⟩)
        rcases Int.lt_or_le v t with zz | zz
        · exfalso
          first
          | exact htk (sw_tk_down hs hp (by omega) (by omega) h9)
          | (have z1 := h9.1; unfold sw_abs at z1; rcases hs with rfl | rfl <;> omega)
        · exact zz
theorem mm_most (σ : sw_S) (hσ : sw_gs σ) (hz : 0 ≤ σ 26 3 ∧ σ 26 3 ≤ 6) (hD : 10 ≤ σ 26 0 ∧ σ 26 0 ≤ 400) (hV : 1 ≤ σ 26 1 ∧ σ 26 1 ≤ 20) (hlm : ∀ j : Nat, (j : Int) ≤ σ 26 0 → 1 ≤ sw_lm σ j) (p s : Int) (gp : sw_g p) (gs : sw_g s) : sw_Con sw_ly sw_rho M_X8_most [.inr (.inr 26), .inl p, .inl s] σ (fun r σ' => (¬ ((0 ≤ p ∧ p ≤ σ 26 0) ∧ (s = 1 ∨ s = -1)) ∧ r = some (.inl (-2)) ∧ σ = σ') ∨ (((0 ≤ p ∧ p ≤ σ 26 0) ∧ (s = 1 ∨ s = -1)) ∧ (sw_pf σ 35 (sw_lm σ) ((σ 26 0).toNat + 1)) = σ' ∧ ∃ g : Int, r = some (.inl g) ∧ 0 ≤ g ∧ g ≤ σ 26 1 ∧ ∀ t, 0 ≤ t → (sw_tk (σ' 35) (σ 26 0) (σ 26 1) p (s * t) ↔ t ≤ g))) := by
  refine sw_con (by decide) (Nat.le_of_ble_eq_true rfl) ?_
  refine sw_blk k_X8_most 2 2 [(0, .inr (.inr 26)), (1, .inl p), (2, .inl s)] [.inl p, .inr (.inr 26)] σ rfl ?_
  refine sw_callV k_X8_most rfl cV_X8_isPlace ml_X8_103 ⟨by decide, by decide⟩ 26 rfl rfl [.inl p] [] rfl rfl (Nat.le_of_ble_eq_true rfl) 5 rfl (sp_mPlace σ p (by omega) (hσ 26 0)) (fun r2 σ3 hq4 => ?_)
  obtain ⟨rfl, ⟨p1, rfl⟩ | ⟨p1, rfl⟩⟩ := hq4
  · have p1 : 0 ≤ p ∧ p ≤ (σ 26 0) := p1
    refine sw_blk k_X8_most 0 5 [(0, .inr (.inr 26)), (1, .inl p), (2, .inl s)] [.inl 1] σ rfl ?_
    refine sw_if_eq k_X8_most rfl (by decide) 18 8 (by decide) rfl (fun c => absurd c (by decide)) (fun _ => ?_)
    refine sw_blk k_X8_most 2 10 [(0, .inr (.inr 26)), (1, .inl p), (2, .inl s)] [.inl 1, .inl s] σ rfl ?_
    refine sw_icmp_eq k_X8_most rfl (by omega) (by decide) 21 13 (by decide) rfl (fun c5 => ?_) (fun c5 => ?_)
    · refine sw_blk k_X8_most 1 22 [(0, .inr (.inr 26)), (1, .inl p), (2, .inl s)] [.inr (.inr 26)] σ rfl ?_
      refine sw_callV k_X8_most rfl cV_X8_lookAtZones ml_X8_111 ⟨by decide, by decide⟩ 26 rfl rfl [] [] rfl rfl (Nat.le_of_ble_eq_true rfl) 25 rfl (sp_look σ hσ hz hD) (fun r6 σ7 hq8 => ?_)
      obtain ⟨rfl, rfl⟩ := hq8
      refine sw_blk k_X8_most 2 27 [(3, .inl 0), (0, .inr (.inr 26)), (1, .inl p), (2, .inl s)] [] (sw_pf σ 35 (sw_lm σ) ((σ 26 0).toNat + 1)) rfl ?_
      have hg9 : sw_gs (sw_pf σ 35 (sw_lm σ) ((σ 26 0).toNat + 1)) := sw_pf_gs hσ 35 _ (fun j _ => sw_lm_g hσ j)
      have hs9 : s = 1 ∨ s = -1 := by omega
      refine lp_mMost (sw_pf σ 35 (sw_lm σ) ((σ 26 0).toNat + 1)) hg9 p s hs9 (show 0 ≤ p ∧ p ≤ σ 26 0 by omega) hD hV _ (fun g g1 g2 g3 => Or.inr ⟨by omega, rfl, g, rfl, g1, g2, g3⟩) 22 0 ⟨by omega, show 0 ≤ σ 26 1 by omega⟩ ?_ (by omega)
      refine ⟨?_, ?_, ?_, fun x hx => ?_⟩
      · rw [Int.mul_zero]; show sw_abs 0 ≤ σ 26 1; unfold sw_abs; omega
      · rw [Int.mul_zero]; omega
      · rw [Int.mul_zero]; show p + 0 ≤ σ 26 0; omega
      · rw [Int.mul_zero] at hx ⊢
        have ex : x = p := by omega
        subst ex
        rw [sw_pf_in σ 35 (sw_lm σ) (by omega)]
        have := hlm x.toNat (by omega)
        show sw_abs 0 ≤ _
        unfold sw_abs
        omega
    · refine sw_blk k_X8_most 2 15 [(0, .inr (.inr 26)), (1, .inl p), (2, .inl s)] [.inl (-1), .inl s] σ rfl ?_
      refine sw_icmp_eq k_X8_most rfl (by omega) (by decide) 21 18 (by decide) rfl (fun c9 => ?_) (fun c9 => ?_)
      · refine sw_blk k_X8_most 1 22 [(0, .inr (.inr 26)), (1, .inl p), (2, .inl s)] [.inr (.inr 26)] σ rfl ?_
        refine sw_callV k_X8_most rfl cV_X8_lookAtZones ml_X8_111 ⟨by decide, by decide⟩ 26 rfl rfl [] [] rfl rfl (Nat.le_of_ble_eq_true rfl) 25 rfl (sp_look σ hσ hz hD) (fun r10 σ11 hq12 => ?_)
        obtain ⟨rfl, rfl⟩ := hq12
        refine sw_blk k_X8_most 2 27 [(3, .inl 0), (0, .inr (.inr 26)), (1, .inl p), (2, .inl s)] [] (sw_pf σ 35 (sw_lm σ) ((σ 26 0).toNat + 1)) rfl ?_
        have hg9 : sw_gs (sw_pf σ 35 (sw_lm σ) ((σ 26 0).toNat + 1)) := sw_pf_gs hσ 35 _ (fun j _ => sw_lm_g hσ j)
        have hs9 : s = 1 ∨ s = -1 := by omega
        refine lp_mMost (sw_pf σ 35 (sw_lm σ) ((σ 26 0).toNat + 1)) hg9 p s hs9 (show 0 ≤ p ∧ p ≤ σ 26 0 by omega) hD hV _ (fun g g1 g2 g3 => Or.inr ⟨by omega, rfl, g, rfl, g1, g2, g3⟩) 22 0 ⟨by omega, show 0 ≤ σ 26 1 by omega⟩ ?_ (by omega)
        refine ⟨?_, ?_, ?_, fun x hx => ?_⟩
        · rw [Int.mul_zero]; show sw_abs 0 ≤ σ 26 1; unfold sw_abs; omega
        · rw [Int.mul_zero]; omega
        · rw [Int.mul_zero]; show p + 0 ≤ σ 26 0; omega
        · rw [Int.mul_zero] at hx ⊢
          have ex : x = p := by omega
          subst ex
          rw [sw_pf_in σ 35 (sw_lm σ) (by omega)]
          have := hlm x.toNat (by omega)
          show sw_abs 0 ≤ _
          unfold sw_abs
          omega
      · refine sw_blk k_X8_most 1 20 [(0, .inr (.inr 26)), (1, .inl p), (2, .inl s)] [.inl (-2)] σ rfl ?_
        refine sw_ireturn k_X8_most rfl rfl ?_
        exact Or.inl ⟨by omega, rfl, rfl⟩
  · have p1 : ¬ (0 ≤ p ∧ p ≤ (σ 26 0)) := p1
    refine sw_blk k_X8_most 0 5 [(0, .inr (.inr 26)), (1, .inl p), (2, .inl s)] [.inl 0] σ rfl ?_
    refine sw_if_eq k_X8_most rfl (by decide) 18 8 (by decide) rfl (fun _ => ?_) (fun c => absurd (by decide) c)
    refine sw_blk k_X8_most 1 20 [(0, .inr (.inr 26)), (1, .inl p), (2, .inl s)] [.inl (-2)] σ rfl ?_
    refine sw_ireturn k_X8_most rfl rfl ?_
    exact Or.inl ⟨by omega, rfl, rfl⟩
theorem sp_fits (σ : sw_S) (hσ : sw_gs σ) (hD : 10 ≤ σ 26 0 ∧ σ 26 0 ≤ 400) (hV : 1 ≤ σ 26 1 ∧ σ 26 1 ≤ 20) (hA : 1 ≤ σ 26 2 ∧ σ 26 2 ≤ 5) (p : Int) (hp : 0 ≤ p ∧ p ≤ σ 26 0) (b : Int) (hb : -20 ≤ b ∧ b ≤ 20) (v : Int) (gv : sw_g v) : sw_Con sw_ly sw_rho M_X8_fits [.inr (.inr 26), .inl p, .inl b, .inl v] σ (fun r σ' => σ = σ' ∧ ((sw_abs (v - b) ≤ σ 26 2 ∧ sw_tk (σ 35) (σ 26 0) (σ 26 1) p v) ∧ r = some (.inl 1) ∨ ¬ (sw_abs (v - b) ≤ σ 26 2 ∧ sw_tk (σ 35) (σ 26 0) (σ 26 1) p v) ∧ r = some (.inl 0))) := by
  refine sw_con (by decide) (Nat.le_of_ble_eq_true rfl) ?_
  refine sw_blk k_X8_fits 6 10 [(0, .inr (.inr 26)), (1, .inl p), (2, .inl b), (3, .inl v)] [.inl (σ 26 1), .inl (-(σ 26 1)), .inl v] σ rfl ?_
  refine sw_callS k_X8_fits rfl cS_X8_in ml_X8_87 ⟨by decide, by decide⟩ [.inl v, .inl (-(σ 26 1)), .inl (σ 26 1)] [] rfl rfl (Nat.le_of_ble_eq_true rfl) 13 rfl (sp_in σ v (-(σ 26 1)) (σ 26 1) (by omega) (by omega) (hσ 26 _)) (fun r2 σ3 hq4 => ?_)
  obtain ⟨rfl, ⟨p1, rfl⟩ | ⟨p1, rfl⟩⟩ := hq4
  · refine sw_blk k_X8_fits 0 13 [(0, .inr (.inr 26)), (1, .inl p), (2, .inl b), (3, .inl v)] [.inl 1] σ rfl ?_
    refine sw_if_eq k_X8_fits rfl (by decide) 47 16 (by decide) rfl (fun c => absurd c (by decide)) (fun _ => ?_)
    refine sw_blk k_X8_fits 8 28 [(0, .inr (.inr 26)), (1, .inl p), (2, .inl b), (3, .inl v)] [.inl (σ 26 2), .inl (-(σ 26 2)), .inl (v - b)] σ rfl ?_
    refine sw_callS k_X8_fits rfl cS_X8_in ml_X8_87 ⟨by decide, by decide⟩ [.inl (v - b), .inl (-(σ 26 2)), .inl (σ 26 2)] [] rfl rfl (Nat.le_of_ble_eq_true rfl) 31 rfl (sp_in σ (v - b) (-(σ 26 2)) (σ 26 2) (by omega) (by omega) (hσ 26 _)) (fun r6 σ7 hq8 => ?_)
    obtain ⟨rfl, ⟨p5, rfl⟩ | ⟨p5, rfl⟩⟩ := hq8
    · refine sw_blk k_X8_fits 0 31 [(0, .inr (.inr 26)), (1, .inl p), (2, .inl b), (3, .inl v)] [.inl 1] σ rfl ?_
      refine sw_if_eq k_X8_fits rfl (by decide) 47 34 (by decide) rfl (fun c => absurd c (by decide)) (fun _ => ?_)
      refine sw_blk k_X8_fits 3 37 [(0, .inr (.inr 26)), (1, .inl p), (2, .inl b), (3, .inl v)] [.inl v, .inl p, .inr (.inr 26)] σ rfl ?_
      refine sw_callV k_X8_fits rfl cV_X8_isTick ml_X8_114 ⟨by decide, by decide⟩ 26 rfl rfl [.inl p, .inl v] [] rfl rfl (Nat.le_of_ble_eq_true rfl) 40 rfl (sp_isTick σ hσ p v hp hD hV (by omega)) (fun r10 σ11 hq12 => ?_)
      obtain ⟨rfl, ⟨p9, rfl⟩ | ⟨p9, rfl⟩⟩ := hq12
      · have htk := p9
        refine sw_blk k_X8_fits 0 40 [(0, .inr (.inr 26)), (1, .inl p), (2, .inl b), (3, .inl v)] [.inl 1] σ rfl ?_
        refine sw_if_eq k_X8_fits rfl (by decide) 47 43 (by decide) rfl (fun c => absurd c (by decide)) (fun _ => ?_)
        refine sw_blk k_X8_fits 2 48 [(0, .inr (.inr 26)), (1, .inl p), (2, .inl b), (3, .inl v)] [.inl 1] σ rfl ?_
        refine sw_zreturn k_X8_fits rfl rfl (by decide) ?_
        exact ⟨rfl, Or.inl ⟨⟨by unfold sw_abs; omega, htk⟩, rfl⟩⟩
      · have htk := p9
        refine sw_blk k_X8_fits 0 40 [(0, .inr (.inr 26)), (1, .inl p), (2, .inl b), (3, .inl v)] [.inl 0] σ rfl ?_
        refine sw_if_eq k_X8_fits rfl (by decide) 47 43 (by decide) rfl (fun _ => ?_) (fun c => absurd (by decide) c)
        refine sw_blk k_X8_fits 1 48 [(0, .inr (.inr 26)), (1, .inl p), (2, .inl b), (3, .inl v)] [.inl 0] σ rfl ?_
        refine sw_zreturn k_X8_fits rfl rfl (by decide) ?_
        exact ⟨rfl, Or.inr ⟨fun q9 => by first | exact htk q9.2 | (have z1 := q9.1; have z2 := q9.2.1; unfold sw_abs at z1 z2; omega), rfl⟩⟩
    · refine sw_blk k_X8_fits 0 31 [(0, .inr (.inr 26)), (1, .inl p), (2, .inl b), (3, .inl v)] [.inl 0] σ rfl ?_
      refine sw_if_eq k_X8_fits rfl (by decide) 47 34 (by decide) rfl (fun _ => ?_) (fun c => absurd (by decide) c)
      refine sw_blk k_X8_fits 1 48 [(0, .inr (.inr 26)), (1, .inl p), (2, .inl b), (3, .inl v)] [.inl 0] σ rfl ?_
      refine sw_zreturn k_X8_fits rfl rfl (by decide) ?_
      exact ⟨rfl, Or.inr ⟨fun q9 => by first | exact htk q9.2 | (have z1 := q9.1; have z2 := q9.2.1; unfold sw_abs at z1 z2; omega), rfl⟩⟩
  · refine sw_blk k_X8_fits 0 13 [(0, .inr (.inr 26)), (1, .inl p), (2, .inl b), (3, .inl v)] [.inl 0] σ rfl ?_
    refine sw_if_eq k_X8_fits rfl (by decide) 47 16 (by decide) rfl (fun _ => ?_) (fun c => absurd (by decide) c)
    refine sw_blk k_X8_fits 1 48 [(0, .inr (.inr 26)), (1, .inl p), (2, .inl b), (3, .inl v)] [.inl 0] σ rfl ?_
    refine sw_zreturn k_X8_fits rfl rfl (by decide) ?_
    exact ⟨rfl, Or.inr ⟨fun q9 => by first | exact htk q9.2 | (have z1 := q9.1; have z2 := q9.2.1; unfold sw_abs at z1 z2; omega), rfl⟩⟩
