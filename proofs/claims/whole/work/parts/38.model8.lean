theorem sw_pg_gs {σ : sw_S} (h : sw_gs σ) (c b : Nat) {g : Nat → Int} (m : Nat) (hg : ∀ j, j < m → sw_g (g j)) : sw_gs (sw_pg σ c b g m) := by
  intro x y
  unfold sw_pg
  split
  · next z => exact hg _ (by omega)
  · exact h x y
theorem lp_mcheck (σ : sw_S) (hσ : sw_gs σ) (hD : 10 ≤ σ 26 0 ∧ σ 26 0 ≤ 400) (hV : 1 ≤ σ 26 1 ∧ σ 26 1 ≤ 20) (hA : 1 ≤ σ 26 2 ∧ σ 26 2 ≤ 5) (s : Int) (hs : (0 ≤ s ∧ s ≤ 3)) (h43 : 0 ≤ σ 43 s.toNat ∧ σ 43 s.toNat ≤ 60) (p0 : Int) (Q : Option sw_Vl → sw_S → Prop) (hQ : ∀ m : Nat, (m : Int) ≤ σ 43 s.toNat → (∀ j, j < m → sw_lw (σ 35) (σ 26 0) (σ 26 1) (σ 26 2) (fun j : Nat => σ 44 (60 * s + (j : Int)).toNat) p0 j) → ((m : Int) < σ 43 s.toNat → ¬ sw_lw (σ 35) (σ 26 0) (σ 26 1) (σ 26 2) (fun j : Nat => σ 44 (60 * s + (j : Int)).toNat) p0 m) → Q (some (.inl (if (m : Int) = σ 43 s.toNat ∧ (-σ 26 2 ≤ sw_pv (fun j : Nat => σ 44 (60 * s + (j : Int)).toNat) m ∧ sw_pv (fun j : Nat => σ 44 (60 * s + (j : Int)).toNat) m ≤ σ 26 2) then (m : Int) + 1000 else (m : Int)))) σ) : ∀ (n : Nat) (m : Nat) (was p : Int), (m : Int) ≤ σ 43 s.toNat → p = sw_pl (fun j : Nat => σ 44 (60 * s + (j : Int)).toNat) p0 m → was = sw_pv (fun j : Nat => σ 44 (60 * s + (j : Int)).toNat) m → (0 ≤ p ∧ p ≤ σ 26 0) → (-20 ≤ was ∧ was ≤ 20) → (∀ j, j < m → sw_lw (σ 35) (σ 26 0) (σ 26 1) (σ 26 2) (fun j : Nat => σ 44 (60 * s + (j : Int)).toNat) p0 j) → 61 - m < n → sw_E sw_ly sw_rho M_X8_check 49 [(4, .inl (m : Int)), (3, .inl was), (2, .inl p), (0, .inr (.inr 26)), (1, .inl s)] [] σ Q := by
  intro n
  induction n with
  | zero =>
    intro m was p hm ep ew hp hw hlt hn
    omega
  | succ n ih =>
    intro m was p hm ep ew hp hw hlt hn
    refine sw_blk k_X8_check 4 56 [(4, .inl (m : Int)), (3, .inl was), (2, .inl p), (0, .inr (.inr 26)), (1, .inl s)] [.inl s, .inr (.inr 43), .inl (m : Int)] σ rfl ?_
    refine sw_iald k_X8_check rfl (i := 43) (n := 4) rfl (by decide) (by omega) (by omega) 57 rfl ?_
    refine sw_blk k_X8_check 0 57 [(4, .inl (m : Int)), (3, .inl was), (2, .inl p), (0, .inr (.inr 26)), (1, .inl s)] [.inl (σ 43 s.toNat), .inl (m : Int)] σ rfl ?_
    refine sw_icmp_ge k_X8_check rfl (by omega) (hσ 43 _) 104 60 (by decide) rfl (fun c1 => ?_) (fun c1 => ?_)
    · refine sw_blk k_X8_check 4 111 [(4, .inl (m : Int)), (3, .inl was), (2, .inl p), (0, .inr (.inr 26)), (1, .inl s)] [.inl s, .inr (.inr 43), .inl (m : Int)] σ rfl ?_
      refine sw_iald k_X8_check rfl (i := 43) (n := 4) rfl (by decide) (by omega) (by omega) 112 rfl ?_
      refine sw_blk k_X8_check 0 112 [(4, .inl (m : Int)), (3, .inl was), (2, .inl p), (0, .inr (.inr 26)), (1, .inl s)] [.inl (σ 43 s.toNat), .inl (m : Int)] σ rfl ?_
      refine sw_icmp_ne k_X8_check rfl (by omega) (hσ 43 _) 140 115 (by decide) rfl (fun c2 => ?_) (fun c2 => ?_)
      · refine sw_blk k_X8_check 1 142 [(4, .inl (m : Int)), (3, .inl was), (2, .inl p), (0, .inr (.inr 26)), (1, .inl s)] [.inl (m : Int)] σ rfl ?_
        refine sw_ireturn k_X8_check rfl rfl ?_
        first
        | (exfalso; omega)
        | (have h9 := hQ m hm hlt (fun zz => by first | exact hlw | (exfalso; omega)); rw [if_neg (fun zz => by have z1 := zz.1; have z2 := zz.2; rw [← ew] at z2; omega)] at h9; exact h9)
      · refine sw_blk k_X8_check 6 125 [(4, .inl (m : Int)), (3, .inl was), (2, .inl p), (0, .inr (.inr 26)), (1, .inl s)] [.inl (σ 26 2), .inl (-(σ 26 2)), .inl was] σ rfl ?_
        refine sw_callS k_X8_check rfl cS_X8_in ml_X8_87 ⟨by decide, by decide⟩ [.inl was, .inl (-(σ 26 2)), .inl (σ 26 2)] [] rfl rfl (Nat.le_of_ble_eq_true rfl) 128 rfl (sp_in σ was (-(σ 26 2)) (σ 26 2) (by omega) (by omega) (hσ 26 _)) (fun r4 σ5 hq6 => ?_)
        obtain ⟨rfl, ⟨p3, rfl⟩ | ⟨p3, rfl⟩⟩ := hq6
        · refine sw_blk k_X8_check 0 128 [(4, .inl (m : Int)), (3, .inl was), (2, .inl p), (0, .inr (.inr 26)), (1, .inl s)] [.inl 1] σ rfl ?_
          refine sw_if_eq k_X8_check rfl (by decide) 140 131 (by decide) rfl (fun c => absurd c (by decide)) (fun _ => ?_)
          refine sw_blk k_X8_check 4 142 [(4, .inl (m : Int)), (3, .inl was), (2, .inl p), (0, .inr (.inr 26)), (1, .inl s)] [.inl ((m : Int) + 1000)] σ rfl ?_
          refine sw_ireturn k_X8_check rfl rfl ?_
          have h9 := hQ m hm hlt (fun zz => by first | exact hlw | (exfalso; omega))
          rw [if_pos ⟨by omega, by rw [← ew]; omega⟩] at h9
          exact h9
        · refine sw_blk k_X8_check 0 128 [(4, .inl (m : Int)), (3, .inl was), (2, .inl p), (0, .inr (.inr 26)), (1, .inl s)] [.inl 0] σ rfl ?_
          refine sw_if_eq k_X8_check rfl (by decide) 140 131 (by decide) rfl (fun _ => ?_) (fun c => absurd (by decide) c)
          refine sw_blk k_X8_check 1 142 [(4, .inl (m : Int)), (3, .inl was), (2, .inl p), (0, .inr (.inr 26)), (1, .inl s)] [.inl (m : Int)] σ rfl ?_
          refine sw_ireturn k_X8_check rfl rfl ?_
          first
          | (exfalso; omega)
          | (have h9 := hQ m hm hlt (fun zz => by first | exact hlw | (exfalso; omega)); rw [if_neg (fun zz => by have z1 := zz.1; have z2 := zz.2; rw [← ew] at z2; omega)] at h9; exact h9)
    · refine sw_blk k_X8_check 10 74 [(4, .inl (m : Int)), (3, .inl was), (2, .inl p), (0, .inr (.inr 26)), (1, .inl s)] [.inl ((60 * s) + (m : Int)), .inr (.inr 44), .inl was, .inl p, .inr (.inr 26)] σ rfl ?_
      refine sw_iald k_X8_check rfl (i := 44) (n := 240) rfl (by decide) (by omega) (by omega) 75 rfl ?_
      refine sw_blk k_X8_check 0 75 [(4, .inl (m : Int)), (3, .inl was), (2, .inl p), (0, .inr (.inr 26)), (1, .inl s)] [.inl (σ 44 (((60 * s) + (m : Int)).toNat)), .inl was, .inl p, .inr (.inr 26)] σ rfl ?_
      refine sw_callV k_X8_check rfl cV_X8_fits ml_X8_208 ⟨by decide, by decide⟩ 26 rfl rfl [.inl p, .inl was, .inl (σ 44 (((60 * s) + (m : Int)).toNat))] [] rfl rfl (Nat.le_of_ble_eq_true rfl) 78 rfl (sp_fits σ hσ hD hV hA p hp was hw (σ 44 (60 * s + (m : Int)).toNat) (hσ 44 _)) (fun r8 σ9 hq10 => ?_)
      obtain ⟨rfl, ⟨p7, rfl⟩ | ⟨p7, rfl⟩⟩ := hq10
      · have hlw : sw_lw (σ 35) (σ 26 0) (σ 26 1) (σ 26 2) (fun j : Nat => σ 44 (60 * s + (j : Int)).toNat) p0 m := by unfold sw_lw; rw [← ep, ← ew]; exact p7
        have t1 := p7.2.1
        have t2 := p7.2.2.1
        have t3 := p7.2.2.2.1
        have t4 := sw_abs_le t1
        refine sw_blk k_X8_check 0 78 [(4, .inl (m : Int)), (3, .inl was), (2, .inl p), (0, .inr (.inr 26)), (1, .inl s)] [.inl 1] σ rfl ?_
        refine sw_if_eq k_X8_check rfl (by decide) 104 81 (by decide) rfl (fun c => absurd c (by decide)) (fun _ => ?_)
        refine sw_blk k_X8_check 7 92 [(4, .inl (m : Int)), (3, .inl was), (2, .inl p), (0, .inr (.inr 26)), (1, .inl s)] [.inl ((60 * s) + (m : Int)), .inr (.inr 44)] σ rfl ?_
        refine sw_iald k_X8_check rfl (i := 44) (n := 240) rfl (by decide) (by omega) (by omega) 93 rfl ?_
        refine sw_blk k_X8_check 7 49 [(4, .inl ((m : Int) + 1)), (2, .inl (p + (σ 44 (((60 * s) + (m : Int)).toNat)))), (3, .inl (σ 44 (((60 * s) + (m : Int)).toNat))), (0, .inr (.inr 26)), (1, .inl s)] [] σ rfl ?_
        refine sw_Lsub [(4, .inl ((m : Int) + 1)), (3, .inl (σ 44 (((60 * s) + (m : Int)).toNat))), (2, .inl (p + (σ 44 (((60 * s) + (m : Int)).toNat)))), (0, .inr (.inr 26)), (1, .inl s)] [0, 2, 1, 3, 4] rfl ?_
        exact ih (m + 1) _ _ (by omega) (by rw [ep]; rfl) rfl (by omega) (by omega) (fun j hj => by rcases Nat.lt_or_ge j m with zz | zz; exact hlt j zz; rw [show j = m by omega]; exact hlw) (by omega)
      · have hlw : ¬ sw_lw (σ 35) (σ 26 0) (σ 26 1) (σ 26 2) (fun j : Nat => σ 44 (60 * s + (j : Int)).toNat) p0 m := fun zz => p7 (by unfold sw_lw at zz; rw [← ep, ← ew] at zz; exact zz)
        refine sw_blk k_X8_check 0 78 [(4, .inl (m : Int)), (3, .inl was), (2, .inl p), (0, .inr (.inr 26)), (1, .inl s)] [.inl 0] σ rfl ?_
        refine sw_if_eq k_X8_check rfl (by decide) 104 81 (by decide) rfl (fun _ => ?_) (fun c => absurd (by decide) c)
        refine sw_blk k_X8_check 4 111 [(4, .inl (m : Int)), (3, .inl was), (2, .inl p), (0, .inr (.inr 26)), (1, .inl s)] [.inl s, .inr (.inr 43), .inl (m : Int)] σ rfl ?_
        refine sw_iald k_X8_check rfl (i := 43) (n := 4) rfl (by decide) (by omega) (by omega) 112 rfl ?_
        refine sw_blk k_X8_check 0 112 [(4, .inl (m : Int)), (3, .inl was), (2, .inl p), (0, .inr (.inr 26)), (1, .inl s)] [.inl (σ 43 s.toNat), .inl (m : Int)] σ rfl ?_
        refine sw_icmp_ne k_X8_check rfl (by omega) (hσ 43 _) 140 115 (by decide) rfl (fun c11 => ?_) (fun c11 => ?_)
        · refine sw_blk k_X8_check 1 142 [(4, .inl (m : Int)), (3, .inl was), (2, .inl p), (0, .inr (.inr 26)), (1, .inl s)] [.inl (m : Int)] σ rfl ?_
          refine sw_ireturn k_X8_check rfl rfl ?_
          first
          | (exfalso; omega)
          | (have h9 := hQ m hm hlt (fun zz => by first | exact hlw | (exfalso; omega)); rw [if_neg (fun zz => by have z1 := zz.1; have z2 := zz.2; rw [← ew] at z2; omega)] at h9; exact h9)
        · refine sw_blk k_X8_check 6 125 [(4, .inl (m : Int)), (3, .inl was), (2, .inl p), (0, .inr (.inr 26)), (1, .inl s)] [.inl (σ 26 2), .inl (-(σ 26 2)), .inl was] σ rfl ?_
          refine sw_callS k_X8_check rfl cS_X8_in ml_X8_87 ⟨by decide, by decide⟩ [.inl was, .inl (-(σ 26 2)), .inl (σ 26 2)] [] rfl rfl (Nat.le_of_ble_eq_true rfl) 128 rfl (sp_in σ was (-(σ 26 2)) (σ 26 2) (by omega) (by omega) (hσ 26 _)) (fun r13 σ14 hq15 => ?_)
          obtain ⟨rfl, ⟨p12, rfl⟩ | ⟨p12, rfl⟩⟩ := hq15
          · refine sw_blk k_X8_check 0 128 [(4, .inl (m : Int)), (3, .inl was), (2, .inl p), (0, .inr (.inr 26)), (1, .inl s)] [.inl 1] σ rfl ?_
            refine sw_if_eq k_X8_check rfl (by decide) 140 131 (by decide) rfl (fun c => absurd c (by decide)) (fun _ => ?_)
            refine sw_blk k_X8_check 4 142 [(4, .inl (m : Int)), (3, .inl was), (2, .inl p), (0, .inr (.inr 26)), (1, .inl s)] [.inl ((m : Int) + 1000)] σ rfl ?_
            refine sw_ireturn k_X8_check rfl rfl ?_
            have h9 := hQ m hm hlt (fun zz => by first | exact hlw | (exfalso; omega))
            rw [if_pos ⟨by omega, by rw [← ew]; omega⟩] at h9
            exact h9
          · refine sw_blk k_X8_check 0 128 [(4, .inl (m : Int)), (3, .inl was), (2, .inl p), (0, .inr (.inr 26)), (1, .inl s)] [.inl 0] σ rfl ?_
            refine sw_if_eq k_X8_check rfl (by decide) 140 131 (by decide) rfl (fun _ => ?_) (fun c => absurd (by decide) c)
            refine sw_blk k_X8_check 1 142 [(4, .inl (m : Int)), (3, .inl was), (2, .inl p), (0, .inr (.inr 26)), (1, .inl s)] [.inl (m : Int)] σ rfl ?_
            refine sw_ireturn k_X8_check rfl rfl ?_
            first
            | (exfalso; omega)
            | (have h9 := hQ m hm hlt (fun zz => by first | exact hlw | (exfalso; omega)); rw [if_neg (fun zz => by have z1 := zz.1; have z2 := zz.2; rw [← ew] at z2; omega)] at h9; exact h9)
theorem mm_check (σ : sw_S) (hσ : sw_gs σ) (hz : 0 ≤ σ 26 3 ∧ σ 26 3 ≤ 6) (hD : 10 ≤ σ 26 0 ∧ σ 26 0 ≤ 400) (hV : 1 ≤ σ 26 1 ∧ σ 26 1 ≤ 20) (hA : 1 ≤ σ 26 2 ∧ σ 26 2 ≤ 5) (hpl : 0 ≤ σ 26 10 ∧ σ 26 10 ≤ σ 26 0) (s : Int) (gs : sw_g s) (hz4 : ∀ j : Nat, j < 4 → 0 ≤ σ 43 j ∧ σ 43 j ≤ 60) : sw_Con sw_ly sw_rho M_X8_check [.inr (.inr 26), .inl s] σ (fun r σ' => (¬ (0 ≤ s ∧ s ≤ 3) ∧ r = some (.inl (-2)) ∧ σ = σ') ∨ (((0 ≤ s ∧ s ≤ 3) ∧ ¬ σ 26 12 = 0) ∧ r = some (.inl (-4)) ∧ σ = σ') ∨ (((0 ≤ s ∧ s ≤ 3) ∧ σ 26 12 = 0 ∧ σ 41 s.toNat = 0) ∧ r = some (.inl (-10 - 1)) ∧ sw_u σ 26 39 1 = σ') ∨ (((0 ≤ s ∧ s ≤ 3) ∧ σ 26 12 = 0 ∧ ¬ σ 41 s.toNat = 0) ∧ (sw_pf σ 35 (sw_lm σ) ((σ 26 0).toNat + 1)) = σ' ∧ ∃ m : Nat, (m : Int) ≤ σ 43 s.toNat ∧ (∀ j, j < m → sw_lw (σ' 35) (σ 26 0) (σ 26 1) (σ 26 2) (fun j : Nat => σ 44 (60 * s + (j : Int)).toNat) (σ 26 10) j) ∧ ((m : Int) < σ 43 s.toNat → ¬ sw_lw (σ' 35) (σ 26 0) (σ 26 1) (σ 26 2) (fun j : Nat => σ 44 (60 * s + (j : Int)).toNat) (σ 26 10) m) ∧ r = some (.inl (if (m : Int) = σ 43 s.toNat ∧ (-σ 26 2 ≤ sw_pv (fun j : Nat => σ 44 (60 * s + (j : Int)).toNat) m ∧ sw_pv (fun j : Nat => σ 44 (60 * s + (j : Int)).toNat) m ≤ σ 26 2) then (m : Int) + 1000 else (m : Int))))) := by
  refine sw_con (by decide) (Nat.le_of_ble_eq_true rfl) ?_
  refine sw_blk k_X8_check 1 1 [(0, .inr (.inr 26)), (1, .inl s)] [.inl s] σ rfl ?_
  refine sw_callS k_X8_check rfl cS_X8_isSheet ml_X8_194 ⟨by decide, by decide⟩ [.inl s] [] rfl rfl (Nat.le_of_ble_eq_true rfl) 4 rfl (sp_mSheet σ s (by omega)) (fun r2 σ3 hq4 => ?_)
  obtain ⟨rfl, ⟨p1, rfl⟩ | ⟨p1, rfl⟩⟩ := hq4
  · refine sw_blk k_X8_check 0 4 [(0, .inr (.inr 26)), (1, .inl s)] [.inl 1] σ rfl ?_
    refine sw_if_ne k_X8_check rfl (by decide) 10 7 (by decide) rfl (fun _ => ?_) (fun c => absurd c (by decide))
    refine sw_blk k_X8_check 2 14 [(0, .inr (.inr 26)), (1, .inl s)] [.inl (σ 26 12)] σ rfl ?_
    refine sw_if_eq k_X8_check rfl (hσ 26 _) 20 17 (by decide) rfl (fun c5 => ?_) (fun c5 => ?_)
    · refine sw_blk k_X8_check 3 25 [(0, .inr (.inr 26)), (1, .inl s)] [.inl s, .inr (.inr 41)] σ rfl ?_
      refine sw_zald k_X8_check rfl (i := 41) (n := 4) rfl (by decide) (by omega) (by omega) 26 rfl ?_
      refine sw_blk k_X8_check 0 26 [(0, .inr (.inr 26)), (1, .inl s)] [.inl (σ 41 s.toNat)] σ rfl ?_
      refine sw_if_ne k_X8_check rfl (hσ 41 _) 35 29 (by decide) rfl (fun c6 => ?_) (fun c6 => ?_)
      · refine sw_blk k_X8_check 1 36 [(0, .inr (.inr 26)), (1, .inl s)] [.inr (.inr 26)] σ rfl ?_
        refine sw_callV k_X8_check rfl cV_X8_lookAtZones ml_X8_111 ⟨by decide, by decide⟩ 26 rfl rfl [] [] rfl rfl (Nat.le_of_ble_eq_true rfl) 39 rfl (sp_look σ hσ hz hD) (fun r7 σ8 hq9 => ?_)
        obtain ⟨rfl, rfl⟩ := hq9
        refine sw_blk k_X8_check 7 49 [(4, .inl 0), (3, .inl 0), (2, .inl ((sw_pf σ 35 (sw_lm σ) ((σ 26 0).toNat + 1)) 26 10)), (0, .inr (.inr 26)), (1, .inl s)] [] (sw_pf σ 35 (sw_lm σ) ((σ 26 0).toNat + 1)) rfl ?_
        have hg9 : sw_gs (sw_pf σ 35 (sw_lm σ) ((σ 26 0).toNat + 1)) := sw_pf_gs hσ 35 _ (fun j _ => sw_lm_g hσ j)
        exact lp_mcheck (sw_pf σ 35 (sw_lm σ) ((σ 26 0).toNat + 1)) hg9 hD hV hA s (by omega) (hz4 s.toNat (by omega)) (σ 26 10) _ (fun m y1 y2 y3 => Or.inr (Or.inr (Or.inr ⟨by omega, rfl, m, y1, y2, y3, rfl⟩))) 62 0 0 (σ 26 10) (hz4 s.toNat (by omega)).1 rfl rfl hpl (by omega) (fun j hj => by omega) (by omega)
      · refine sw_blk k_X8_check 2 31 [(0, .inr (.inr 26)), (1, .inl s)] [.inl 1, .inr (.inr 26)] σ rfl ?_
        refine sw_callV k_X8_check rfl cV_X8_meets ml_X8_197 ⟨by decide, by decide⟩ 26 rfl rfl [.inl 1] [] rfl rfl (Nat.le_of_ble_eq_true rfl) 34 rfl (sp_meets σ 1) (fun r10 σ11 hq12 => ?_)
        obtain ⟨rfl, rfl⟩ := hq12
        refine sw_blk k_X8_check 0 34 [(0, .inr (.inr 26)), (1, .inl s)] [.inl (-10 - 1)] (sw_u σ 26 39 1) rfl ?_
        refine sw_ireturn k_X8_check rfl rfl ?_
        exact Or.inr (Or.inr (Or.inl ⟨by omega, rfl, rfl⟩))
    · refine sw_blk k_X8_check 1 19 [(0, .inr (.inr 26)), (1, .inl s)] [.inl (-4)] σ rfl ?_
      refine sw_ireturn k_X8_check rfl rfl ?_
      exact Or.inr (Or.inl ⟨by omega, rfl, rfl⟩)
  · refine sw_blk k_X8_check 0 4 [(0, .inr (.inr 26)), (1, .inl s)] [.inl 0] σ rfl ?_
    refine sw_if_ne k_X8_check rfl (by decide) 10 7 (by decide) rfl (fun c => absurd (by decide) c) (fun _ => ?_)
    refine sw_blk k_X8_check 1 9 [(0, .inr (.inr 26)), (1, .inl s)] [.inl (-2)] σ rfl ?_
    refine sw_ireturn k_X8_check rfl rfl ?_
    exact Or.inl ⟨by omega, rfl, rfl⟩
theorem lp_mwrite (σ : sw_S) (hσ : sw_gs σ) (s : Int) (hs : (0 ≤ s ∧ s ≤ 3)) (K w : Int) (hK : 0 ≤ K ∧ K ≤ 40 ∧ K ≤ 60 ∧ K ≤ σ 26 18) (h18 : σ 26 18 < 1000000) (hw : 0 ≤ w ∧ w ≤ 2) (Q : Option sw_Vl → sw_S → Prop) (hQ : Q (some (.inl K)) (sw_pg σ 44 (60 * s).toNat (fun j : Nat => sw_cv (σ 42 s.toNat) (σ 39 (3 * ((σ 26 18 - K + (j : Int)) % 40) + w).toNat)) K.toNat)) : ∀ (n : Nat) (i : Nat), (i : Int) ≤ K → 61 - i < n → sw_E sw_ly sw_rho M_X8_write 64 [(4, .inl (i : Int)), (3, .inl K), (0, .inr (.inr 26)), (1, .inl s), (2, .inl w)] [] (sw_pg σ 44 (60 * s).toNat (fun j : Nat => sw_cv (σ 42 s.toNat) (σ 39 (3 * ((σ 26 18 - K + (j : Int)) % 40) + w).toNat)) i) Q := by
  intro n
  induction n with
  | zero =>
    intro i hi hn
    omega
  | succ n ih =>
    intro i hi hn
    have e18 : (sw_pg σ 44 (60 * s).toNat (fun j : Nat => sw_cv (σ 42 s.toNat) (σ 39 (3 * ((σ 26 18 - K + (j : Int)) % 40) + w).toNat)) i) 26 18 = σ 26 18 := sw_pg_row σ _ _ _ (by decide) _
    refine sw_blk k_X8_write 2 67 [(4, .inl (i : Int)), (3, .inl K), (0, .inr (.inr 26)), (1, .inl s), (2, .inl w)] [.inl K, .inl (i : Int)] (sw_pg σ 44 (60 * s).toNat (fun j : Nat => sw_cv (σ 42 s.toNat) (σ 39 (3 * ((σ 26 18 - K + (j : Int)) % 40) + w).toNat)) i) rfl ?_
    refine sw_icmp_ge k_X8_write rfl (by omega) (by omega) 104 70 (by decide) rfl (fun c1 => ?_) (fun c1 => ?_)
    · refine sw_blk k_X8_write 1 105 [(4, .inl (i : Int)), (3, .inl K), (0, .inr (.inr 26)), (1, .inl s), (2, .inl w)] [.inl K] (sw_pg σ 44 (60 * s).toNat (fun j : Nat => sw_cv (σ 42 s.toNat) (σ 39 (3 * ((σ 26 18 - K + (j : Int)) % 40) + w).toNat)) i) rfl ?_
      refine sw_ireturn k_X8_write rfl rfl ?_
      have e : K.toNat = i := by omega
      rw [e] at hQ
      exact hQ
    · refine sw_blk k_X8_write 13 90 [(4, .inl (i : Int)), (3, .inl K), (0, .inr (.inr 26)), (1, .inl s), (2, .inl w)] [.inl 40, .inl ((((sw_pg σ 44 (60 * s).toNat (fun j : Nat => sw_cv (σ 42 s.toNat) (σ 39 (3 * ((σ 26 18 - K + (j : Int)) % 40) + w).toNat)) i) 26 18) - K) + (i : Int)), .inl 3, .inr (.inr 39), .inl (i : Int), .inl s, .inr (.inr 26)] (sw_pg σ 44 (60 * s).toNat (fun j : Nat => sw_cv (σ 42 s.toNat) (σ 39 (3 * ((σ 26 18 - K + (j : Int)) % 40) + w).toNat)) i) rfl ?_
      refine sw_irem k_X8_write rfl (by omega) (by decide) (by omega) (by decide) 91 rfl ?_
      refine sw_blk k_X8_write 3 94 [(4, .inl (i : Int)), (3, .inl K), (0, .inr (.inr 26)), (1, .inl s), (2, .inl w)] [.inl ((3 * (((((sw_pg σ 44 (60 * s).toNat (fun j : Nat => sw_cv (σ 42 s.toNat) (σ 39 (3 * ((σ 26 18 - K + (j : Int)) % 40) + w).toNat)) i) 26 18) - K) + (i : Int)) % 40)) + w), .inr (.inr 39), .inl (i : Int), .inl s, .inr (.inr 26)] (sw_pg σ 44 (60 * s).toNat (fun j : Nat => sw_cv (σ 42 s.toNat) (σ 39 (3 * ((σ 26 18 - K + (j : Int)) % 40) + w).toNat)) i) rfl ?_
      refine sw_iald k_X8_write rfl (i := 39) (n := 120) rfl (by decide) (by omega) (by omega) 95 rfl ?_
      refine sw_blk k_X8_write 0 95 [(4, .inl (i : Int)), (3, .inl K), (0, .inr (.inr 26)), (1, .inl s), (2, .inl w)] [.inl ((sw_pg σ 44 (60 * s).toNat (fun j : Nat => sw_cv (σ 42 s.toNat) (σ 39 (3 * ((σ 26 18 - K + (j : Int)) % 40) + w).toNat)) i) 39 (((3 * (((((sw_pg σ 44 (60 * s).toNat (fun j : Nat => sw_cv (σ 42 s.toNat) (σ 39 (3 * ((σ 26 18 - K + (j : Int)) % 40) + w).toNat)) i) 26 18) - K) + (i : Int)) % 40)) + w).toNat)), .inl (i : Int), .inl s, .inr (.inr 26)] (sw_pg σ 44 (60 * s).toNat (fun j : Nat => sw_cv (σ 42 s.toNat) (σ 39 (3 * ((σ 26 18 - K + (j : Int)) % 40) + w).toNat)) i) rfl ?_
      refine sw_callV k_X8_write rfl cV_X8_lay ml_X8_203 ⟨by decide, by decide⟩ 26 rfl rfl [.inl s, .inl (i : Int), .inl ((sw_pg σ 44 (60 * s).toNat (fun j : Nat => sw_cv (σ 42 s.toNat) (σ 39 (3 * ((σ 26 18 - K + (j : Int)) % 40) + w).toNat)) i) 39 (((3 * (((((sw_pg σ 44 (60 * s).toNat (fun j : Nat => sw_cv (σ 42 s.toNat) (σ 39 (3 * ((σ 26 18 - K + (j : Int)) % 40) + w).toNat)) i) 26 18) - K) + (i : Int)) % 40)) + w).toNat))] [] rfl rfl (Nat.le_of_ble_eq_true rfl) 98 rfl (sp_mlay (sw_pg σ 44 (60 * s).toNat (fun j : Nat => sw_cv (σ 42 s.toNat) (σ 39 (3 * ((σ 26 18 - K + (j : Int)) % 40) + w).toNat)) i) (sw_pg_gs hσ 44 _ i (fun j _ => sw_cv_g (hσ 39 _))) s hs (i : Int) ((sw_pg σ 44 (60 * s).toNat (fun j : Nat => sw_cv (σ 42 s.toNat) (σ 39 (3 * ((σ 26 18 - K + (j : Int)) % 40) + w).toNat)) i) 39 (((3 * (((((sw_pg σ 44 (60 * s).toNat (fun j : Nat => sw_cv (σ 42 s.toNat) (σ 39 (3 * ((σ 26 18 - K + (j : Int)) % 40) + w).toNat)) i) 26 18) - K) + (i : Int)) % 40)) + w).toNat)) (by omega)) (fun r2 σ3 hq4 => ?_)
      obtain ⟨rfl, rfl⟩ := hq4
      refine sw_blk k_X8_write 2 64 [(4, .inl ((i : Int) + 1)), (3, .inl K), (0, .inr (.inr 26)), (1, .inl s), (2, .inl w)] [] (sw_u (sw_pg σ 44 (60 * s).toNat (fun j : Nat => sw_cv (σ 42 s.toNat) (σ 39 (3 * ((σ 26 18 - K + (j : Int)) % 40) + w).toNat)) i) 44 (60 * s + (i : Int)).toNat (sw_cv ((sw_pg σ 44 (60 * s).toNat (fun j : Nat => sw_cv (σ 42 s.toNat) (σ 39 (3 * ((σ 26 18 - K + (j : Int)) % 40) + w).toNat)) i) 42 s.toNat) ((sw_pg σ 44 (60 * s).toNat (fun j : Nat => sw_cv (σ 42 s.toNat) (σ 39 (3 * ((σ 26 18 - K + (j : Int)) % 40) + w).toNat)) i) 39 (((3 * (((((sw_pg σ 44 (60 * s).toNat (fun j : Nat => sw_cv (σ 42 s.toNat) (σ 39 (3 * ((σ 26 18 - K + (j : Int)) % 40) + w).toNat)) i) 26 18) - K) + (i : Int)) % 40)) + w).toNat)))) rfl ?_
      rw [show (sw_u (sw_pg σ 44 (60 * s).toNat (fun j : Nat => sw_cv (σ 42 s.toNat) (σ 39 (3 * ((σ 26 18 - K + (j : Int)) % 40) + w).toNat)) i) 44 (60 * s + (i : Int)).toNat (sw_cv ((sw_pg σ 44 (60 * s).toNat (fun j : Nat => sw_cv (σ 42 s.toNat) (σ 39 (3 * ((σ 26 18 - K + (j : Int)) % 40) + w).toNat)) i) 42 s.toNat) ((sw_pg σ 44 (60 * s).toNat (fun j : Nat => sw_cv (σ 42 s.toNat) (σ 39 (3 * ((σ 26 18 - K + (j : Int)) % 40) + w).toNat)) i) 39 (((3 * (((((sw_pg σ 44 (60 * s).toNat (fun j : Nat => sw_cv (σ 42 s.toNat) (σ 39 (3 * ((σ 26 18 - K + (j : Int)) % 40) + w).toNat)) i) 26 18) - K) + (i : Int)) % 40)) + w).toNat)))) = sw_pg σ 44 (60 * s).toNat (fun j : Nat => sw_cv (σ 42 s.toNat) (σ 39 (3 * ((σ 26 18 - K + (j : Int)) % 40) + w).toNat)) (i + 1) from sw_pg_s σ 44 (60 * s).toNat (fun j : Nat => sw_cv (σ 42 s.toNat) (σ 39 (3 * ((σ 26 18 - K + (j : Int)) % 40) + w).toNat)) i (by omega) rfl]
      exact ih (i + 1) (by omega) (by omega)
theorem mm_write (σ : sw_S) (hσ : sw_gs σ) (s : Int) (gs : sw_g s) (hz4 : ∀ j : Nat, j < 4 → 0 ≤ σ 43 j ∧ σ 43 j ≤ 60) (h18 : 0 ≤ σ 26 18 ∧ σ 26 18 < 1000000) (w : Int) (gw : sw_g w) : sw_Con sw_ly sw_rho M_X8_write [.inr (.inr 26), .inl s, .inl w] σ (fun r σ' => (¬ ((0 ≤ s ∧ s ≤ 3) ∧ (0 ≤ w ∧ w ≤ 2)) ∧ r = some (.inl (-2)) ∧ σ = σ') ∨ ((((0 ≤ s ∧ s ≤ 3) ∧ (0 ≤ w ∧ w ≤ 2)) ∧ σ 41 s.toNat = 0) ∧ r = some (.inl (-10 - 1)) ∧ sw_u σ 26 39 1 = σ') ∨ ((((0 ≤ s ∧ s ≤ 3) ∧ (0 ≤ w ∧ w ≤ 2)) ∧ ¬ σ 41 s.toNat = 0) ∧ r = some (.inl (min (min (σ 26 18) 40) (σ 43 s.toNat))) ∧ sw_pg σ 44 (60 * s).toNat (fun j : Nat => sw_cv (σ 42 s.toNat) (σ 39 (3 * ((σ 26 18 - (min (min (σ 26 18) 40) (σ 43 s.toNat)) + (j : Int)) % 40) + w).toNat)) (min (min (σ 26 18) 40) (σ 43 s.toNat)).toNat = σ')) := by
  refine sw_con (by decide) (Nat.le_of_ble_eq_true rfl) ?_
  refine sw_blk k_X8_write 1 1 [(0, .inr (.inr 26)), (1, .inl s), (2, .inl w)] [.inl s] σ rfl ?_
  refine sw_callS k_X8_write rfl cS_X8_isSheet ml_X8_194 ⟨by decide, by decide⟩ [.inl s] [] rfl rfl (Nat.le_of_ble_eq_true rfl) 4 rfl (sp_mSheet σ s (by omega)) (fun r2 σ3 hq4 => ?_)
  obtain ⟨rfl, ⟨p1, rfl⟩ | ⟨p1, rfl⟩⟩ := hq4
  · refine sw_blk k_X8_write 0 4 [(0, .inr (.inr 26)), (1, .inl s), (2, .inl w)] [.inl 1] σ rfl ?_
    refine sw_if_eq k_X8_write rfl (by decide) 16 7 (by decide) rfl (fun c => absurd c (by decide)) (fun _ => ?_)
    refine sw_blk k_X8_write 3 10 [(0, .inr (.inr 26)), (1, .inl s), (2, .inl w)] [.inl 2, .inl 0, .inl w] σ rfl ?_
    refine sw_callS k_X8_write rfl cS_X8_in ml_X8_87 ⟨by decide, by decide⟩ [.inl w, .inl 0, .inl 2] [] rfl rfl (Nat.le_of_ble_eq_true rfl) 13 rfl (sp_in σ w 0 2 (by omega) (by decide) (by decide)) (fun r6 σ7 hq8 => ?_)
    obtain ⟨rfl, ⟨p5, rfl⟩ | ⟨p5, rfl⟩⟩ := hq8
    · refine sw_blk k_X8_write 0 13 [(0, .inr (.inr 26)), (1, .inl s), (2, .inl w)] [.inl 1] σ rfl ?_
      refine sw_if_ne k_X8_write rfl (by decide) 19 16 (by decide) rfl (fun _ => ?_) (fun c => absurd c (by decide))
      refine sw_blk k_X8_write 3 24 [(0, .inr (.inr 26)), (1, .inl s), (2, .inl w)] [.inl s, .inr (.inr 41)] σ rfl ?_
      refine sw_zald k_X8_write rfl (i := 41) (n := 4) rfl (by decide) (by omega) (by omega) 25 rfl ?_
      refine sw_blk k_X8_write 0 25 [(0, .inr (.inr 26)), (1, .inl s), (2, .inl w)] [.inl (σ 41 s.toNat)] σ rfl ?_
      refine sw_if_ne k_X8_write rfl (hσ 41 _) 34 28 (by decide) rfl (fun c9 => ?_) (fun c9 => ?_)
      · refine sw_blk k_X8_write 1 35 [(0, .inr (.inr 26)), (1, .inl s), (2, .inl w)] [.inr (.inr 26)] σ rfl ?_
        refine sw_callV k_X8_write rfl cV_X8_logged ml_X8_191 ⟨by decide, by decide⟩ 26 rfl rfl [] [] rfl rfl (Nat.le_of_ble_eq_true rfl) 38 rfl (sp_mlogged σ  (hσ 26 _)) (fun r10 σ11 hq12 => ?_)
        obtain ⟨rfl, rfl⟩ := hq12
        refine sw_blk k_X8_write 3 43 [(0, .inr (.inr 26)), (1, .inl s), (2, .inl w)] [.inl s, .inr (.inr 43), .inl (min (σ 26 18) 40)] σ rfl ?_
        refine sw_iald k_X8_write rfl (i := 43) (n := 4) rfl (by decide) (by omega) (by omega) 44 rfl ?_
        refine sw_blk k_X8_write 0 44 [(0, .inr (.inr 26)), (1, .inl s), (2, .inl w)] [.inl (σ 43 s.toNat), .inl (min (σ 26 18) 40)] σ rfl ?_
        refine sw_icmp_ge k_X8_write rfl (by omega) (hσ 43 _) 54 47 (by decide) rfl (fun c13 => ?_) (fun c13 => ?_)
        · refine sw_blk k_X8_write 3 59 [(0, .inr (.inr 26)), (1, .inl s), (2, .inl w)] [.inl s, .inr (.inr 43)] σ rfl ?_
          refine sw_iald k_X8_write rfl (i := 43) (n := 4) rfl (by decide) (by omega) (by omega) 60 rfl ?_
          refine sw_blk k_X8_write 3 64 [(4, .inl 0), (3, .inl (σ 43 s.toNat)), (0, .inr (.inr 26)), (1, .inl s), (2, .inl w)] [] σ rfl ?_
          have z4 := hz4 s.toNat (by omega)
          have eK : (σ 43 s.toNat) = (min (min (σ 26 18) 40) (σ 43 s.toNat)) := by omega
          have h := lp_mwrite σ hσ s (by omega) (σ 43 s.toNat) w (by omega) (by omega) (by omega) (fun r σ' => (¬ ((0 ≤ s ∧ s ≤ 3) ∧ (0 ≤ w ∧ w ≤ 2)) ∧ r = some (.inl (-2)) ∧ σ = σ') ∨ ((((0 ≤ s ∧ s ≤ 3) ∧ (0 ≤ w ∧ w ≤ 2)) ∧ σ 41 s.toNat = 0) ∧ r = some (.inl (-10 - 1)) ∧ sw_u σ 26 39 1 = σ') ∨ ((((0 ≤ s ∧ s ≤ 3) ∧ (0 ≤ w ∧ w ≤ 2)) ∧ ¬ σ 41 s.toNat = 0) ∧ r = some (.inl (min (min (σ 26 18) 40) (σ 43 s.toNat))) ∧ sw_pg σ 44 (60 * s).toNat (fun j : Nat => sw_cv (σ 42 s.toNat) (σ 39 (3 * ((σ 26 18 - (min (min (σ 26 18) 40) (σ 43 s.toNat)) + (j : Int)) % 40) + w).toNat)) (min (min (σ 26 18) 40) (σ 43 s.toNat)).toNat = σ')) (Or.inr (Or.inr ⟨by omega, congrArg (fun z : Int => some (Sum.inl z)) eK, by rw [← eK]⟩)) 62 0 (by omega) (by omega)
          rw [sw_pg_0] at h
          exact h
        · refine sw_blk k_X8_write 1 48 [(0, .inr (.inr 26)), (1, .inl s), (2, .inl w)] [.inr (.inr 26)] σ rfl ?_
          refine sw_callV k_X8_write rfl cV_X8_logged ml_X8_191 ⟨by decide, by decide⟩ 26 rfl rfl [] [] rfl rfl (Nat.le_of_ble_eq_true rfl) 51 rfl (sp_mlogged σ  (hσ 26 _)) (fun r14 σ15 hq16 => ?_)
          obtain ⟨rfl, rfl⟩ := hq16
          refine sw_blk k_X8_write 4 64 [(4, .inl 0), (3, .inl (min (σ 26 18) 40)), (0, .inr (.inr 26)), (1, .inl s), (2, .inl w)] [] σ rfl ?_
          have z4 := hz4 s.toNat (by omega)
          have eK : (min (σ 26 18) 40) = (min (min (σ 26 18) 40) (σ 43 s.toNat)) := by omega
          have h := lp_mwrite σ hσ s (by omega) (min (σ 26 18) 40) w (by omega) (by omega) (by omega) (fun r σ' => (¬ ((0 ≤ s ∧ s ≤ 3) ∧ (0 ≤ w ∧ w ≤ 2)) ∧ r = some (.inl (-2)) ∧ σ = σ') ∨ ((((0 ≤ s ∧ s ≤ 3) ∧ (0 ≤ w ∧ w ≤ 2)) ∧ σ 41 s.toNat = 0) ∧ r = some (.inl (-10 - 1)) ∧ sw_u σ 26 39 1 = σ') ∨ ((((0 ≤ s ∧ s ≤ 3) ∧ (0 ≤ w ∧ w ≤ 2)) ∧ ¬ σ 41 s.toNat = 0) ∧ r = some (.inl (min (min (σ 26 18) 40) (σ 43 s.toNat))) ∧ sw_pg σ 44 (60 * s).toNat (fun j : Nat => sw_cv (σ 42 s.toNat) (σ 39 (3 * ((σ 26 18 - (min (min (σ 26 18) 40) (σ 43 s.toNat)) + (j : Int)) % 40) + w).toNat)) (min (min (σ 26 18) 40) (σ 43 s.toNat)).toNat = σ')) (Or.inr (Or.inr ⟨by omega, congrArg (fun z : Int => some (Sum.inl z)) eK, by rw [← eK]⟩)) 62 0 (by omega) (by omega)
          rw [sw_pg_0] at h
          exact h
      · refine sw_blk k_X8_write 2 30 [(0, .inr (.inr 26)), (1, .inl s), (2, .inl w)] [.inl 1, .inr (.inr 26)] σ rfl ?_
        refine sw_callV k_X8_write rfl cV_X8_meets ml_X8_197 ⟨by decide, by decide⟩ 26 rfl rfl [.inl 1] [] rfl rfl (Nat.le_of_ble_eq_true rfl) 33 rfl (sp_meets σ 1) (fun r17 σ18 hq19 => ?_)
        obtain ⟨rfl, rfl⟩ := hq19
        refine sw_blk k_X8_write 0 33 [(0, .inr (.inr 26)), (1, .inl s), (2, .inl w)] [.inl (-10 - 1)] (sw_u σ 26 39 1) rfl ?_
        refine sw_ireturn k_X8_write rfl rfl ?_
        exact Or.inr (Or.inl ⟨by omega, rfl, rfl⟩)
    · refine sw_blk k_X8_write 0 13 [(0, .inr (.inr 26)), (1, .inl s), (2, .inl w)] [.inl 0] σ rfl ?_
      refine sw_if_ne k_X8_write rfl (by decide) 19 16 (by decide) rfl (fun c => absurd (by decide) c) (fun _ => ?_)
      refine sw_blk k_X8_write 1 18 [(0, .inr (.inr 26)), (1, .inl s), (2, .inl w)] [.inl (-2)] σ rfl ?_
      refine sw_ireturn k_X8_write rfl rfl ?_
      exact Or.inl ⟨by omega, rfl, rfl⟩
  · refine sw_blk k_X8_write 0 4 [(0, .inr (.inr 26)), (1, .inl s), (2, .inl w)] [.inl 0] σ rfl ?_
    refine sw_if_eq k_X8_write rfl (by decide) 16 7 (by decide) rfl (fun _ => ?_) (fun c => absurd (by decide) c)
    refine sw_blk k_X8_write 1 18 [(0, .inr (.inr 26)), (1, .inl s), (2, .inl w)] [.inl (-2)] σ rfl ?_
    refine sw_ireturn k_X8_write rfl rfl ?_
    exact Or.inl ⟨by omega, rfl, rfl⟩
theorem lp_mplan (σ : sw_S) (hσ : sw_gs σ) (s q : Int) (hs : (0 ≤ s ∧ s ≤ 3)) (K : Int) (hK : 0 ≤ K ∧ K ≤ 60) (Q : Option sw_Vl → sw_S → Prop) (hQ : Q (some (.inl K)) (sw_pg σ 44 (60 * s).toNat (fun j : Nat => sw_cv (σ 42 s.toNat) (σ 38 j)) K.toNat)) : ∀ (n : Nat) (i : Nat), (i : Int) ≤ K → 61 - i < n → sw_E sw_ly sw_rho M_X8_plan 77 [(4, .inl (i : Int)), (3, .inl K), (0, .inr (.inr 26)), (1, .inl s), (2, .inl q)] [] (sw_pg σ 44 (60 * s).toNat (fun j : Nat => sw_cv (σ 42 s.toNat) (σ 38 j)) i) Q := by
  intro n
  induction n with
  | zero =>
    intro i hi hn
    omega
  | succ n ih =>
    intro i hi hn
    refine sw_blk k_X8_plan 2 80 [(4, .inl (i : Int)), (3, .inl K), (0, .inr (.inr 26)), (1, .inl s), (2, .inl q)] [.inl K, .inl (i : Int)] (sw_pg σ 44 (60 * s).toNat (fun j : Nat => sw_cv (σ 42 s.toNat) (σ 38 j)) i) rfl ?_
    refine sw_icmp_ge k_X8_plan rfl (by omega) (by omega) 103 83 (by decide) rfl (fun c1 => ?_) (fun c1 => ?_)
    · refine sw_blk k_X8_plan 1 104 [(4, .inl (i : Int)), (3, .inl K), (0, .inr (.inr 26)), (1, .inl s), (2, .inl q)] [.inl K] (sw_pg σ 44 (60 * s).toNat (fun j : Nat => sw_cv (σ 42 s.toNat) (σ 38 j)) i) rfl ?_
      refine sw_ireturn k_X8_plan rfl rfl ?_
      have e : K.toNat = i := by omega
      rw [e] at hQ
      exact hQ
    · refine sw_blk k_X8_plan 6 93 [(4, .inl (i : Int)), (3, .inl K), (0, .inr (.inr 26)), (1, .inl s), (2, .inl q)] [.inl (i : Int), .inr (.inr 38), .inl (i : Int), .inl s, .inr (.inr 26)] (sw_pg σ 44 (60 * s).toNat (fun j : Nat => sw_cv (σ 42 s.toNat) (σ 38 j)) i) rfl ?_
      refine sw_iald k_X8_plan rfl (i := 38) (n := 600) rfl (by decide) (by omega) (by omega) 94 rfl ?_
      refine sw_blk k_X8_plan 0 94 [(4, .inl (i : Int)), (3, .inl K), (0, .inr (.inr 26)), (1, .inl s), (2, .inl q)] [.inl ((sw_pg σ 44 (60 * s).toNat (fun j : Nat => sw_cv (σ 42 s.toNat) (σ 38 j)) i) 38 i), .inl (i : Int), .inl s, .inr (.inr 26)] (sw_pg σ 44 (60 * s).toNat (fun j : Nat => sw_cv (σ 42 s.toNat) (σ 38 j)) i) rfl ?_
      refine sw_callV k_X8_plan rfl cV_X8_lay ml_X8_203 ⟨by decide, by decide⟩ 26 rfl rfl [.inl s, .inl (i : Int), .inl ((sw_pg σ 44 (60 * s).toNat (fun j : Nat => sw_cv (σ 42 s.toNat) (σ 38 j)) i) 38 i)] [] rfl rfl (Nat.le_of_ble_eq_true rfl) 97 rfl (sp_mlay (sw_pg σ 44 (60 * s).toNat (fun j : Nat => sw_cv (σ 42 s.toNat) (σ 38 j)) i) (sw_pg_gs hσ 44 _ i (fun j _ => sw_cv_g (hσ 38 _))) s hs (i : Int) ((sw_pg σ 44 (60 * s).toNat (fun j : Nat => sw_cv (σ 42 s.toNat) (σ 38 j)) i) 38 i) (by omega)) (fun r2 σ3 hq4 => ?_)
      obtain ⟨rfl, rfl⟩ := hq4
      refine sw_blk k_X8_plan 2 77 [(4, .inl ((i : Int) + 1)), (3, .inl K), (0, .inr (.inr 26)), (1, .inl s), (2, .inl q)] [] (sw_u (sw_pg σ 44 (60 * s).toNat (fun j : Nat => sw_cv (σ 42 s.toNat) (σ 38 j)) i) 44 (60 * s + (i : Int)).toNat (sw_cv ((sw_pg σ 44 (60 * s).toNat (fun j : Nat => sw_cv (σ 42 s.toNat) (σ 38 j)) i) 42 s.toNat) ((sw_pg σ 44 (60 * s).toNat (fun j : Nat => sw_cv (σ 42 s.toNat) (σ 38 j)) i) 38 i))) rfl ?_
      rw [show (sw_u (sw_pg σ 44 (60 * s).toNat (fun j : Nat => sw_cv (σ 42 s.toNat) (σ 38 j)) i) 44 (60 * s + (i : Int)).toNat (sw_cv ((sw_pg σ 44 (60 * s).toNat (fun j : Nat => sw_cv (σ 42 s.toNat) (σ 38 j)) i) 42 s.toNat) ((sw_pg σ 44 (60 * s).toNat (fun j : Nat => sw_cv (σ 42 s.toNat) (σ 38 j)) i) 38 i))) = sw_pg σ 44 (60 * s).toNat (fun j : Nat => sw_cv (σ 42 s.toNat) (σ 38 j)) (i + 1) from sw_pg_s σ 44 (60 * s).toNat (fun j : Nat => sw_cv (σ 42 s.toNat) (σ 38 j)) i (by omega) rfl]
      exact ih (i + 1) (by omega) (by omega)
theorem mm_plan (σ : sw_S) (hσ : sw_gs σ) (hz : 0 ≤ σ 26 3 ∧ σ 26 3 ≤ 6) (hD : 10 ≤ σ 26 0 ∧ σ 26 0 ≤ 400) (hV : 1 ≤ σ 26 1 ∧ σ 26 1 ≤ 20) (hA : 1 ≤ σ 26 2 ∧ σ 26 2 ≤ 5) (lim : Nat → Int) (hl : ∀ j : Nat, (j : Int) ≤ σ 26 0 → lim j = sw_lm σ j) (hL : ∀ x : Int, 0 ≤ x → x ≤ σ 26 0 → 1 ≤ lim x.toNat) (hpl : 0 ≤ σ 26 10 ∧ σ 26 10 ≤ σ 26 0) (s : Int) (gs : sw_g s) (hz4 : ∀ j : Nat, j < 4 → 0 ≤ σ 43 j ∧ σ 43 j ≤ 60) (q : Int) (gq : sw_g q) : sw_Con sw_ly sw_rho M_X8_plan [.inr (.inr 26), .inl s, .inl q] σ (fun r σ' => (¬ ((0 ≤ s ∧ s ≤ 3) ∧ (0 ≤ q ∧ q ≤ σ 26 0)) ∧ r = some (.inl (-2)) ∧ σ = σ') ∨ ((((0 ≤ s ∧ s ≤ 3) ∧ (0 ≤ q ∧ q ≤ σ 26 0)) ∧ ¬ σ 26 12 = 0) ∧ r = some (.inl (-4)) ∧ σ = σ') ∨ ((((0 ≤ s ∧ s ≤ 3) ∧ (0 ≤ q ∧ q ≤ σ 26 0)) ∧ σ 26 12 = 0 ∧ σ 41 s.toNat = 0) ∧ r = some (.inl (-10 - 1)) ∧ sw_u σ 26 39 1 = σ') ∨ ((((0 ≤ s ∧ s ≤ 3) ∧ (0 ≤ q ∧ q ≤ σ 26 0)) ∧ σ 26 12 = 0 ∧ ¬ σ 41 s.toNat = 0) ∧ ∃ (n : Nat) (τ : sw_S), (∀ i j, i ≠ 35 → i ≠ 36 → i ≠ 37 → i ≠ 38 → τ i j = σ i j) ∧ sw_gs τ ∧ sw_isr lim (σ 26 0) (σ 26 1) (σ 26 2) (σ 26 10) q n (τ 38) ∧ r = some (.inl (min (n : Int) (σ 43 s.toNat))) ∧ sw_pg τ 44 (60 * s).toNat (fun j : Nat => sw_cv (σ 42 s.toNat) (τ 38 j)) (min (n : Int) (σ 43 s.toNat)).toNat = σ')) := by
  refine sw_con (by decide) (Nat.le_of_ble_eq_true rfl) ?_
  refine sw_blk k_X8_plan 1 1 [(0, .inr (.inr 26)), (1, .inl s), (2, .inl q)] [.inl s] σ rfl ?_
  refine sw_callS k_X8_plan rfl cS_X8_isSheet ml_X8_194 ⟨by decide, by decide⟩ [.inl s] [] rfl rfl (Nat.le_of_ble_eq_true rfl) 4 rfl (sp_mSheet σ s (by omega)) (fun r2 σ3 hq4 => ?_)
  obtain ⟨rfl, ⟨p1, rfl⟩ | ⟨p1, rfl⟩⟩ := hq4
  · refine sw_blk k_X8_plan 0 4 [(0, .inr (.inr 26)), (1, .inl s), (2, .inl q)] [.inl 1] σ rfl ?_
    refine sw_if_eq k_X8_plan rfl (by decide) 15 7 (by decide) rfl (fun c => absurd c (by decide)) (fun _ => ?_)
    refine sw_blk k_X8_plan 2 9 [(0, .inr (.inr 26)), (1, .inl s), (2, .inl q)] [.inl q, .inr (.inr 26)] σ rfl ?_
    refine sw_callV k_X8_plan rfl cV_X8_isPlace ml_X8_103 ⟨by decide, by decide⟩ 26 rfl rfl [.inl q] [] rfl rfl (Nat.le_of_ble_eq_true rfl) 12 rfl (sp_mPlace σ q (by omega) (hσ 26 0)) (fun r6 σ7 hq8 => ?_)
    obtain ⟨rfl, ⟨p5, rfl⟩ | ⟨p5, rfl⟩⟩ := hq8
    · have p5 : 0 ≤ q ∧ q ≤ (σ 26 0) := p5
      refine sw_blk k_X8_plan 0 12 [(0, .inr (.inr 26)), (1, .inl s), (2, .inl q)] [.inl 1] σ rfl ?_
      refine sw_if_ne k_X8_plan rfl (by decide) 18 15 (by decide) rfl (fun _ => ?_) (fun c => absurd c (by decide))
      refine sw_blk k_X8_plan 2 22 [(0, .inr (.inr 26)), (1, .inl s), (2, .inl q)] [.inl (σ 26 12)] σ rfl ?_
      refine sw_if_eq k_X8_plan rfl (hσ 26 _) 28 25 (by decide) rfl (fun c9 => ?_) (fun c9 => ?_)
      · refine sw_blk k_X8_plan 3 33 [(0, .inr (.inr 26)), (1, .inl s), (2, .inl q)] [.inl s, .inr (.inr 41)] σ rfl ?_
        refine sw_zald k_X8_plan rfl (i := 41) (n := 4) rfl (by decide) (by omega) (by omega) 34 rfl ?_
        refine sw_blk k_X8_plan 0 34 [(0, .inr (.inr 26)), (1, .inl s), (2, .inl q)] [.inl (σ 41 s.toNat)] σ rfl ?_
        refine sw_if_ne k_X8_plan rfl (hσ 41 _) 43 37 (by decide) rfl (fun c10 => ?_) (fun c10 => ?_)
        · refine sw_blk k_X8_plan 4 49 [(0, .inr (.inr 26)), (1, .inl s), (2, .inl q)] [.inl q, .inl (σ 26 10), .inr (.inr 26)] σ rfl ?_
          refine sw_callV k_X8_plan rfl cV_X8_plans ml_X8_125 ⟨by decide, by decide⟩ 26 rfl rfl [.inl (σ 26 10), .inl q] [] rfl rfl (Nat.le_of_ble_eq_true rfl) 52 rfl (sp_plans σ hσ hz hD hV hA lim hl hL (σ 26 10) q (by omega) (by omega)) (fun r11 σ12 hq13 => ?_)
          obtain ⟨fk, hg, nn, rfl, n1, n2, n3, n4⟩ := hq13
          have hisr : sw_isr lim (σ 26 0) (σ 26 1) (σ 26 2) (σ 26 10) q nn _ := ⟨⟨n1, n2, n3⟩, n4⟩
          refine sw_blk k_X8_plan 5 59 [(3, .inl (nn : Int)), (0, .inr (.inr 26)), (1, .inl s), (2, .inl q)] [.inl s, .inr (.inr 43), .inl (nn : Int)] σ12 rfl ?_
          refine sw_iald k_X8_plan rfl (i := 43) (n := 4) rfl (by decide) (by omega) (by omega) 60 rfl ?_
          refine sw_blk k_X8_plan 0 60 [(3, .inl (nn : Int)), (0, .inr (.inr 26)), (1, .inl s), (2, .inl q)] [.inl (σ12 43 s.toNat), .inl (nn : Int)] σ12 rfl ?_
          refine sw_icmp_ge k_X8_plan rfl (by omega) (hg 43 _) 67 63 (by decide) rfl (fun c14 => ?_) (fun c14 => ?_)
          · refine sw_blk k_X8_plan 3 72 [(3, .inl (nn : Int)), (0, .inr (.inr 26)), (1, .inl s), (2, .inl q)] [.inl s, .inr (.inr 43)] σ12 rfl ?_
            refine sw_iald k_X8_plan rfl (i := 43) (n := 4) rfl (by decide) (by omega) (by omega) 73 rfl ?_
            refine sw_blk k_X8_plan 3 77 [(4, .inl 0), (3, .inl (σ12 43 s.toNat)), (0, .inr (.inr 26)), (1, .inl s), (2, .inl q)] [] σ12 rfl ?_
            have e43 : σ12 43 = σ 43 := funext fun j => fk 43 j (by decide) (by decide) (by decide) (by decide)
            have e42 : σ12 42 = σ 42 := funext fun j => fk 42 j (by decide) (by decide) (by decide) (by decide)
            have z4 := hz4 s.toNat (by omega)
            have e9 : σ12 43 s.toNat = σ 43 s.toNat := by rw [e43]
            have eK : (σ12 43 s.toNat) = (min (nn : Int) (σ 43 s.toNat)) := by omega
            have h := lp_mplan σ12 hg s q (by omega) (σ12 43 s.toNat) (by omega) (fun r σ' => (¬ ((0 ≤ s ∧ s ≤ 3) ∧ (0 ≤ q ∧ q ≤ σ 26 0)) ∧ r = some (.inl (-2)) ∧ σ = σ') ∨ ((((0 ≤ s ∧ s ≤ 3) ∧ (0 ≤ q ∧ q ≤ σ 26 0)) ∧ ¬ σ 26 12 = 0) ∧ r = some (.inl (-4)) ∧ σ = σ') ∨ ((((0 ≤ s ∧ s ≤ 3) ∧ (0 ≤ q ∧ q ≤ σ 26 0)) ∧ σ 26 12 = 0 ∧ σ 41 s.toNat = 0) ∧ r = some (.inl (-10 - 1)) ∧ sw_u σ 26 39 1 = σ') ∨ ((((0 ≤ s ∧ s ≤ 3) ∧ (0 ≤ q ∧ q ≤ σ 26 0)) ∧ σ 26 12 = 0 ∧ ¬ σ 41 s.toNat = 0) ∧ ∃ (n : Nat) (τ : sw_S), (∀ i j, i ≠ 35 → i ≠ 36 → i ≠ 37 → i ≠ 38 → τ i j = σ i j) ∧ sw_gs τ ∧ sw_isr lim (σ 26 0) (σ 26 1) (σ 26 2) (σ 26 10) q n (τ 38) ∧ r = some (.inl (min (n : Int) (σ 43 s.toNat))) ∧ sw_pg τ 44 (60 * s).toNat (fun j : Nat => sw_cv (σ 42 s.toNat) (τ 38 j)) (min (n : Int) (σ 43 s.toNat)).toNat = σ')) (Or.inr (Or.inr (Or.inr ⟨by omega, nn, σ12, fk, hg, hisr, congrArg (fun z : Int => some (Sum.inl z)) eK, by rw [← eK, e42]⟩))) 62 0 (by omega) (by omega)
            rw [sw_pg_0] at h
            exact h
          · refine sw_blk k_X8_plan 5 77 [(4, .inl 0), (3, .inl (nn : Int)), (0, .inr (.inr 26)), (1, .inl s), (2, .inl q)] [] σ12 rfl ?_
            have e43 : σ12 43 = σ 43 := funext fun j => fk 43 j (by decide) (by decide) (by decide) (by decide)
            have e42 : σ12 42 = σ 42 := funext fun j => fk 42 j (by decide) (by decide) (by decide) (by decide)
            have z4 := hz4 s.toNat (by omega)
            have e9 : σ12 43 s.toNat = σ 43 s.toNat := by rw [e43]
            have eK : (nn : Int) = (min (nn : Int) (σ 43 s.toNat)) := by omega
            have h := lp_mplan σ12 hg s q (by omega) (nn : Int) (by omega) (fun r σ' => (¬ ((0 ≤ s ∧ s ≤ 3) ∧ (0 ≤ q ∧ q ≤ σ 26 0)) ∧ r = some (.inl (-2)) ∧ σ = σ') ∨ ((((0 ≤ s ∧ s ≤ 3) ∧ (0 ≤ q ∧ q ≤ σ 26 0)) ∧ ¬ σ 26 12 = 0) ∧ r = some (.inl (-4)) ∧ σ = σ') ∨ ((((0 ≤ s ∧ s ≤ 3) ∧ (0 ≤ q ∧ q ≤ σ 26 0)) ∧ σ 26 12 = 0 ∧ σ 41 s.toNat = 0) ∧ r = some (.inl (-10 - 1)) ∧ sw_u σ 26 39 1 = σ') ∨ ((((0 ≤ s ∧ s ≤ 3) ∧ (0 ≤ q ∧ q ≤ σ 26 0)) ∧ σ 26 12 = 0 ∧ ¬ σ 41 s.toNat = 0) ∧ ∃ (n : Nat) (τ : sw_S), (∀ i j, i ≠ 35 → i ≠ 36 → i ≠ 37 → i ≠ 38 → τ i j = σ i j) ∧ sw_gs τ ∧ sw_isr lim (σ 26 0) (σ 26 1) (σ 26 2) (σ 26 10) q n (τ 38) ∧ r = some (.inl (min (n : Int) (σ 43 s.toNat))) ∧ sw_pg τ 44 (60 * s).toNat (fun j : Nat => sw_cv (σ 42 s.toNat) (τ 38 j)) (min (n : Int) (σ 43 s.toNat)).toNat = σ')) (Or.inr (Or.inr (Or.inr ⟨by omega, nn, σ12, fk, hg, hisr, congrArg (fun z : Int => some (Sum.inl z)) eK, by rw [← eK, e42]⟩))) 62 0 (by omega) (by omega)
            rw [sw_pg_0] at h
            exact h
        · refine sw_blk k_X8_plan 2 39 [(0, .inr (.inr 26)), (1, .inl s), (2, .inl q)] [.inl 1, .inr (.inr 26)] σ rfl ?_
          refine sw_callV k_X8_plan rfl cV_X8_meets ml_X8_197 ⟨by decide, by decide⟩ 26 rfl rfl [.inl 1] [] rfl rfl (Nat.le_of_ble_eq_true rfl) 42 rfl (sp_meets σ 1) (fun r15 σ16 hq17 => ?_)
          obtain ⟨rfl, rfl⟩ := hq17
          refine sw_blk k_X8_plan 0 42 [(0, .inr (.inr 26)), (1, .inl s), (2, .inl q)] [.inl (-10 - 1)] (sw_u σ 26 39 1) rfl ?_
          refine sw_ireturn k_X8_plan rfl rfl ?_
          exact Or.inr (Or.inr (Or.inl ⟨by omega, rfl, rfl⟩))
      · refine sw_blk k_X8_plan 1 27 [(0, .inr (.inr 26)), (1, .inl s), (2, .inl q)] [.inl (-4)] σ rfl ?_
        refine sw_ireturn k_X8_plan rfl rfl ?_
        exact Or.inr (Or.inl ⟨by omega, rfl, rfl⟩)
    · have p5 : ¬ (0 ≤ q ∧ q ≤ (σ 26 0)) := p5
      refine sw_blk k_X8_plan 0 12 [(0, .inr (.inr 26)), (1, .inl s), (2, .inl q)] [.inl 0] σ rfl ?_
      refine sw_if_ne k_X8_plan rfl (by decide) 18 15 (by decide) rfl (fun c => absurd (by decide) c) (fun _ => ?_)
      refine sw_blk k_X8_plan 1 17 [(0, .inr (.inr 26)), (1, .inl s), (2, .inl q)] [.inl (-2)] σ rfl ?_
      refine sw_ireturn k_X8_plan rfl rfl ?_
      exact Or.inl ⟨by omega, rfl, rfl⟩
  · refine sw_blk k_X8_plan 0 4 [(0, .inr (.inr 26)), (1, .inl s), (2, .inl q)] [.inl 0] σ rfl ?_
    refine sw_if_eq k_X8_plan rfl (by decide) 15 7 (by decide) rfl (fun _ => ?_) (fun c => absurd (by decide) c)
    refine sw_blk k_X8_plan 1 17 [(0, .inr (.inr 26)), (1, .inl s), (2, .inl q)] [.inl (-2)] σ rfl ?_
    refine sw_ireturn k_X8_plan rfl rfl ?_
    exact Or.inl ⟨by omega, rfl, rfl⟩
theorem lp_mcopy2 (σ : sw_S) (hσ : sw_gs σ) (s i t j m : Int) (hs : (0 ≤ s ∧ s ≤ 3)) (ht : 0 ≤ t ∧ t ≤ 3) (hi : 0 ≤ i ∧ 0 ≤ m ∧ i + m ≤ 60) (hj : 0 ≤ j ∧ j + m ≤ 60) (Q : Option sw_Vl → sw_S → Prop) (hQ : Q (some (.inl 1)) (sw_pg σ 44 (60 * t + j).toNat (σ 45) m.toNat)) : ∀ (n : Nat) (k : Nat), (k : Int) ≤ m → 61 - k < n → sw_E sw_ly sw_rho M_X8_copy 157 [(6, .inl (k : Int)), (0, .inr (.inr 26)), (1, .inl s), (2, .inl i), (3, .inl t), (4, .inl j), (5, .inl m)] [] (sw_pg σ 44 (60 * t + j).toNat (σ 45) k) Q := by
  intro n
  induction n with
  | zero =>
    intro k hk hn
    omega
  | succ n ih =>
    intro k hk hn
    refine sw_blk k_X8_copy 2 161 [(6, .inl (k : Int)), (0, .inr (.inr 26)), (1, .inl s), (2, .inl i), (3, .inl t), (4, .inl j), (5, .inl m)] [.inl m, .inl (k : Int)] (sw_pg σ 44 (60 * t + j).toNat (σ 45) k) rfl ?_
    refine sw_icmp_ge k_X8_copy rfl (by omega) (by omega) 192 164 (by decide) rfl (fun c1 => ?_) (fun c1 => ?_)
    · refine sw_blk k_X8_copy 1 193 [(6, .inl (k : Int)), (0, .inr (.inr 26)), (1, .inl s), (2, .inl i), (3, .inl t), (4, .inl j), (5, .inl m)] [.inl 1] (sw_pg σ 44 (60 * t + j).toNat (σ 45) k) rfl ?_
      refine sw_ireturn k_X8_copy rfl rfl ?_
      have e : m.toNat = k := by omega
      rw [e] at hQ
      exact hQ
    · refine sw_blk k_X8_copy 12 184 [(6, .inl (k : Int)), (0, .inr (.inr 26)), (1, .inl s), (2, .inl i), (3, .inl t), (4, .inl j), (5, .inl m)] [.inl (k : Int), .inr (.inr 45), .inl (((60 * t) + j) + (k : Int)), .inr (.inr 44)] (sw_pg σ 44 (60 * t + j).toNat (σ 45) k) rfl ?_
      refine sw_iald k_X8_copy rfl (i := 45) (n := 60) rfl (by decide) (by omega) (by omega) 185 rfl ?_
      refine sw_blk k_X8_copy 0 185 [(6, .inl (k : Int)), (0, .inr (.inr 26)), (1, .inl s), (2, .inl i), (3, .inl t), (4, .inl j), (5, .inl m)] [.inl ((sw_pg σ 44 (60 * t + j).toNat (σ 45) k) 45 k), .inl (((60 * t) + j) + (k : Int)), .inr (.inr 44)] (sw_pg σ 44 (60 * t + j).toNat (σ 45) k) rfl ?_
      refine sw_iast k_X8_copy rfl (i := 44) (n := 240) rfl (by decide) (by omega) (by omega) 186 rfl ?_
      refine sw_blk k_X8_copy 2 157 [(6, .inl ((k : Int) + 1)), (0, .inr (.inr 26)), (1, .inl s), (2, .inl i), (3, .inl t), (4, .inl j), (5, .inl m)] [] (sw_u (sw_pg σ 44 (60 * t + j).toNat (σ 45) k) 44 ((((60 * t) + j) + (k : Int)).toNat) ((sw_pg σ 44 (60 * t + j).toNat (σ 45) k) 45 k)) rfl ?_
      rw [sw_pg_s σ 44 (60 * t + j).toNat (σ 45) k (by omega) (by rw [sw_pg_row σ _ _ _ (by decide)])]
      exact ih (k + 1) (by omega) (by omega)
theorem lp_mcopy1 (σ : sw_S) (hσ : sw_gs σ) (s i t j m : Int) (hs : (0 ≤ s ∧ s ≤ 3)) (ht : 0 ≤ t ∧ t ≤ 3) (hi : 0 ≤ i ∧ 0 ≤ m ∧ i + m ≤ 60) (hj : 0 ≤ j ∧ j + m ≤ 60) (Q : Option sw_Vl → sw_S → Prop) (hQ : Q (some (.inl 1)) (sw_pg (sw_pf σ 45 (fun k : Nat => σ 44 (60 * s + i + (k : Int)).toNat) m.toNat) 44 (60 * t + j).toNat ((sw_pf σ 45 (fun k : Nat => σ 44 (60 * s + i + (k : Int)).toNat) m.toNat) 45) m.toNat)) : ∀ (n : Nat) (k : Nat), (k : Int) ≤ m → 61 - k < n → sw_E sw_ly sw_rho M_X8_copy 120 [(6, .inl (k : Int)), (0, .inr (.inr 26)), (1, .inl s), (2, .inl i), (3, .inl t), (4, .inl j), (5, .inl m)] [] (sw_pf σ 45 (fun k : Nat => σ 44 (60 * s + i + (k : Int)).toNat) k) Q := by
  intro n
  induction n with
  | zero =>
    intro k hk hn
    omega
  | succ n ih =>
    intro k hk hn
    refine sw_blk k_X8_copy 2 124 [(6, .inl (k : Int)), (0, .inr (.inr 26)), (1, .inl s), (2, .inl i), (3, .inl t), (4, .inl j), (5, .inl m)] [.inl m, .inl (k : Int)] (sw_pf σ 45 (fun k : Nat => σ 44 (60 * s + i + (k : Int)).toNat) k) rfl ?_
    refine sw_icmp_ge k_X8_copy rfl (by omega) (by omega) 154 127 (by decide) rfl (fun c1 => ?_) (fun c1 => ?_)
    · refine sw_blk k_X8_copy 2 157 [(6, .inl 0), (0, .inr (.inr 26)), (1, .inl s), (2, .inl i), (3, .inl t), (4, .inl j), (5, .inl m)] [] (sw_pf σ 45 (fun k : Nat => σ 44 (60 * s + i + (k : Int)).toNat) k) rfl ?_
      have e : m.toNat = k := by omega
      rw [e] at hQ
      have h := lp_mcopy2 (sw_pf σ 45 (fun k : Nat => σ 44 (60 * s + i + (k : Int)).toNat) k) (sw_pf_gs hσ 45 k (fun _ _ => hσ 44 _)) s i t j m hs ht hi hj Q (by rw [e]; exact hQ) 62 0 (by omega) (by omega)
      rw [sw_pg_0] at h
      exact h
    · refine sw_blk k_X8_copy 12 146 [(6, .inl (k : Int)), (0, .inr (.inr 26)), (1, .inl s), (2, .inl i), (3, .inl t), (4, .inl j), (5, .inl m)] [.inl (((60 * s) + i) + (k : Int)), .inr (.inr 44), .inl (k : Int), .inr (.inr 45)] (sw_pf σ 45 (fun k : Nat => σ 44 (60 * s + i + (k : Int)).toNat) k) rfl ?_
      refine sw_iald k_X8_copy rfl (i := 44) (n := 240) rfl (by decide) (by omega) (by omega) 147 rfl ?_
      refine sw_blk k_X8_copy 0 147 [(6, .inl (k : Int)), (0, .inr (.inr 26)), (1, .inl s), (2, .inl i), (3, .inl t), (4, .inl j), (5, .inl m)] [.inl ((sw_pf σ 45 (fun k : Nat => σ 44 (60 * s + i + (k : Int)).toNat) k) 44 ((((60 * s) + i) + (k : Int)).toNat)), .inl (k : Int), .inr (.inr 45)] (sw_pf σ 45 (fun k : Nat => σ 44 (60 * s + i + (k : Int)).toNat) k) rfl ?_
      refine sw_iast k_X8_copy rfl (i := 45) (n := 60) rfl (by decide) (by omega) (by omega) 148 rfl ?_
      refine sw_blk k_X8_copy 2 120 [(6, .inl ((k : Int) + 1)), (0, .inr (.inr 26)), (1, .inl s), (2, .inl i), (3, .inl t), (4, .inl j), (5, .inl m)] [] (sw_u (sw_pf σ 45 (fun k : Nat => σ 44 (60 * s + i + (k : Int)).toNat) k) 45 k ((sw_pf σ 45 (fun k : Nat => σ 44 (60 * s + i + (k : Int)).toNat) k) 44 ((((60 * s) + i) + (k : Int)).toNat))) rfl ?_
      rw [sw_pf_s σ 45 (fun k : Nat => σ 44 (60 * s + i + (k : Int)).toNat) k (by rw [sw_pf_row σ _ _ (by decide)])]
      exact ih (k + 1) (by omega) (by omega)
theorem mm_copy (σ : sw_S) (hσ : sw_gs σ) (s i t j m : Int) (gs : sw_g s) (gi : sw_g i) (gt : sw_g t) (gj : sw_g j) (gm : sw_g m) (hz4 : ∀ j : Nat, j < 4 → 0 ≤ σ 43 j ∧ σ 43 j ≤ 60) : sw_Con sw_ly sw_rho M_X8_copy [.inr (.inr 26), .inl s, .inl i, .inl t, .inl j, .inl m] σ (fun r σ' => (¬ ((0 ≤ s ∧ s ≤ 3) ∧ (0 ≤ t ∧ t ≤ 3)) ∧ r = some (.inl (-2)) ∧ σ = σ') ∨ ((((0 ≤ s ∧ s ≤ 3) ∧ (0 ≤ t ∧ t ≤ 3)) ∧ (σ 41 s.toNat = 0 ∨ σ 41 t.toNat = 0)) ∧ r = some (.inl (-10 - 1)) ∧ (sw_u σ 26 39 1) = σ') ∨ ((((0 ≤ s ∧ s ≤ 3) ∧ (0 ≤ t ∧ t ≤ 3)) ∧ ¬ (σ 41 s.toNat = 0 ∨ σ 41 t.toNat = 0) ∧ ¬ σ 42 s.toNat = σ 42 t.toNat) ∧ r = some (.inl (-10 - 4)) ∧ (sw_u σ 26 39 4) = σ') ∨ ((((0 ≤ s ∧ s ≤ 3) ∧ (0 ≤ t ∧ t ≤ 3)) ∧ ¬ (σ 41 s.toNat = 0 ∨ σ 41 t.toNat = 0) ∧ σ 42 s.toNat = σ 42 t.toNat ∧ ¬ ((0 ≤ i ∧ 0 ≤ m ∧ i ≤ σ 43 s.toNat - m) ∧ (0 ≤ j ∧ 0 ≤ m ∧ j ≤ σ 43 t.toNat - m))) ∧ r = some (.inl (-10 - 2)) ∧ (sw_u σ 26 39 2) = σ') ∨ ((((0 ≤ s ∧ s ≤ 3) ∧ (0 ≤ t ∧ t ≤ 3)) ∧ ¬ (σ 41 s.toNat = 0 ∨ σ 41 t.toNat = 0) ∧ σ 42 s.toNat = σ 42 t.toNat ∧ ((0 ≤ i ∧ 0 ≤ m ∧ i ≤ σ 43 s.toNat - m) ∧ (0 ≤ j ∧ 0 ≤ m ∧ j ≤ σ 43 t.toNat - m))) ∧ r = some (.inl (1)) ∧ (sw_pg (sw_pf σ 45 (fun k : Nat => σ 44 (60 * s + i + (k : Int)).toNat) m.toNat) 44 (60 * t + j).toNat ((sw_pf σ 45 (fun k : Nat => σ 44 (60 * s + i + (k : Int)).toNat) m.toNat) 45) m.toNat) = σ')) := by
  refine sw_con (by decide) (Nat.le_of_ble_eq_true rfl) ?_
  have z1 : (0 ≤ s ∧ s ≤ 3) → 0 ≤ σ 43 s.toNat ∧ σ 43 s.toNat ≤ 60 := fun q9 => hz4 s.toNat (by omega)
  have z2 : (0 ≤ t ∧ t ≤ 3) → 0 ≤ σ 43 t.toNat ∧ σ 43 t.toNat ≤ 60 := fun q9 => hz4 t.toNat (by omega)
  refine sw_blk k_X8_copy 1 1 [(0, .inr (.inr 26)), (1, .inl s), (2, .inl i), (3, .inl t), (4, .inl j), (5, .inl m)] [.inl s] σ rfl ?_
  refine sw_callS k_X8_copy rfl cS_X8_isSheet ml_X8_194 ⟨by decide, by decide⟩ [.inl s] [] rfl rfl (Nat.le_of_ble_eq_true rfl) 4 rfl (sp_mSheet σ s (by omega)) (fun r2 σ3 hq4 => ?_)
  obtain ⟨rfl, ⟨p1, rfl⟩ | ⟨p1, rfl⟩⟩ := hq4
  · refine sw_blk k_X8_copy 0 4 [(0, .inr (.inr 26)), (1, .inl s), (2, .inl i), (3, .inl t), (4, .inl j), (5, .inl m)] [.inl 1] σ rfl ?_
    refine sw_if_eq k_X8_copy rfl (by decide) 14 7 (by decide) rfl (fun c => absurd c (by decide)) (fun _ => ?_)
    refine sw_blk k_X8_copy 1 8 [(0, .inr (.inr 26)), (1, .inl s), (2, .inl i), (3, .inl t), (4, .inl j), (5, .inl m)] [.inl t] σ rfl ?_
    refine sw_callS k_X8_copy rfl cS_X8_isSheet ml_X8_194 ⟨by decide, by decide⟩ [.inl t] [] rfl rfl (Nat.le_of_ble_eq_true rfl) 11 rfl (sp_mSheet σ t (by omega)) (fun r6 σ7 hq8 => ?_)
    obtain ⟨rfl, ⟨p5, rfl⟩ | ⟨p5, rfl⟩⟩ := hq8
    · refine sw_blk k_X8_copy 0 11 [(0, .inr (.inr 26)), (1, .inl s), (2, .inl i), (3, .inl t), (4, .inl j), (5, .inl m)] [.inl 1] σ rfl ?_
      refine sw_if_ne k_X8_copy rfl (by decide) 17 14 (by decide) rfl (fun _ => ?_) (fun c => absurd c (by decide))
      refine sw_blk k_X8_copy 3 22 [(0, .inr (.inr 26)), (1, .inl s), (2, .inl i), (3, .inl t), (4, .inl j), (5, .inl m)] [.inl s, .inr (.inr 41)] σ rfl ?_
      refine sw_zald k_X8_copy rfl (i := 41) (n := 4) rfl (by decide) (by omega) (by omega) 23 rfl ?_
      refine sw_blk k_X8_copy 0 23 [(0, .inr (.inr 26)), (1, .inl s), (2, .inl i), (3, .inl t), (4, .inl j), (5, .inl m)] [.inl (σ 41 s.toNat)] σ rfl ?_
      refine sw_if_eq k_X8_copy rfl (hσ 41 _) 35 26 (by decide) rfl (fun c9 => ?_) (fun c9 => ?_)
      · refine sw_blk k_X8_copy 2 37 [(0, .inr (.inr 26)), (1, .inl s), (2, .inl i), (3, .inl t), (4, .inl j), (5, .inl m)] [.inl 1, .inr (.inr 26)] σ rfl ?_
        refine sw_callV k_X8_copy rfl cV_X8_meets ml_X8_197 ⟨by decide, by decide⟩ 26 rfl rfl [.inl 1] [] rfl rfl (Nat.le_of_ble_eq_true rfl) 40 rfl (sp_meets σ 1) (fun r10 σ11 hq12 => ?_)
        obtain ⟨rfl, rfl⟩ := hq12
        refine sw_blk k_X8_copy 0 40 [(0, .inr (.inr 26)), (1, .inl s), (2, .inl i), (3, .inl t), (4, .inl j), (5, .inl m)] [.inl (-10 - 1)] (sw_u σ 26 39 1) rfl ?_
        refine sw_ireturn k_X8_copy rfl rfl ?_
        exact Or.inr (Or.inl ⟨by omega, rfl, rfl⟩)
      · refine sw_blk k_X8_copy 3 31 [(0, .inr (.inr 26)), (1, .inl s), (2, .inl i), (3, .inl t), (4, .inl j), (5, .inl m)] [.inl t, .inr (.inr 41)] σ rfl ?_
        refine sw_zald k_X8_copy rfl (i := 41) (n := 4) rfl (by decide) (by omega) (by omega) 32 rfl ?_
        refine sw_blk k_X8_copy 0 32 [(0, .inr (.inr 26)), (1, .inl s), (2, .inl i), (3, .inl t), (4, .inl j), (5, .inl m)] [.inl (σ 41 t.toNat)] σ rfl ?_
        refine sw_if_ne k_X8_copy rfl (hσ 41 _) 41 35 (by decide) rfl (fun c13 => ?_) (fun c13 => ?_)
        · refine sw_blk k_X8_copy 3 46 [(0, .inr (.inr 26)), (1, .inl s), (2, .inl i), (3, .inl t), (4, .inl j), (5, .inl m)] [.inl s, .inr (.inr 42)] σ rfl ?_
          refine sw_iald k_X8_copy rfl (i := 42) (n := 4) rfl (by decide) (by omega) (by omega) 47 rfl ?_
          refine sw_blk k_X8_copy 3 52 [(0, .inr (.inr 26)), (1, .inl s), (2, .inl i), (3, .inl t), (4, .inl j), (5, .inl m)] [.inl t, .inr (.inr 42), .inl (σ 42 s.toNat)] σ rfl ?_
          refine sw_iald k_X8_copy rfl (i := 42) (n := 4) rfl (by decide) (by omega) (by omega) 53 rfl ?_
          refine sw_blk k_X8_copy 0 53 [(0, .inr (.inr 26)), (1, .inl s), (2, .inl i), (3, .inl t), (4, .inl j), (5, .inl m)] [.inl (σ 42 t.toNat), .inl (σ 42 s.toNat)] σ rfl ?_
          refine sw_icmp_eq k_X8_copy rfl (hσ 42 _) (hσ 42 _) 62 56 (by decide) rfl (fun c14 => ?_) (fun c14 => ?_)
          · refine sw_blk k_X8_copy 1 63 [(0, .inr (.inr 26)), (1, .inl s), (2, .inl i), (3, .inl t), (4, .inl j), (5, .inl m)] [.inl i] σ rfl ?_
            refine sw_if_lt k_X8_copy rfl (by omega) 111 66 (by decide) rfl (fun c15 => ?_) (fun c15 => ?_)
            · refine sw_blk k_X8_copy 2 113 [(0, .inr (.inr 26)), (1, .inl s), (2, .inl i), (3, .inl t), (4, .inl j), (5, .inl m)] [.inl 2, .inr (.inr 26)] σ rfl ?_
              refine sw_callV k_X8_copy rfl cV_X8_meets ml_X8_197 ⟨by decide, by decide⟩ 26 rfl rfl [.inl 2] [] rfl rfl (Nat.le_of_ble_eq_true rfl) 116 rfl (sp_meets σ 2) (fun r16 σ17 hq18 => ?_)
              obtain ⟨rfl, rfl⟩ := hq18
              refine sw_blk k_X8_copy 0 116 [(0, .inr (.inr 26)), (1, .inl s), (2, .inl i), (3, .inl t), (4, .inl j), (5, .inl m)] [.inl (-10 - 2)] (sw_u σ 26 39 2) rfl ?_
              refine sw_ireturn k_X8_copy rfl rfl ?_
              exact Or.inr (Or.inr (Or.inr (Or.inl ⟨by omega, rfl, rfl⟩)))
            · refine sw_blk k_X8_copy 1 68 [(0, .inr (.inr 26)), (1, .inl s), (2, .inl i), (3, .inl t), (4, .inl j), (5, .inl m)] [.inl j] σ rfl ?_
              refine sw_if_lt k_X8_copy rfl (by omega) 111 71 (by decide) rfl (fun c19 => ?_) (fun c19 => ?_)
              · refine sw_blk k_X8_copy 2 113 [(0, .inr (.inr 26)), (1, .inl s), (2, .inl i), (3, .inl t), (4, .inl j), (5, .inl m)] [.inl 2, .inr (.inr 26)] σ rfl ?_
                refine sw_callV k_X8_copy rfl cV_X8_meets ml_X8_197 ⟨by decide, by decide⟩ 26 rfl rfl [.inl 2] [] rfl rfl (Nat.le_of_ble_eq_true rfl) 116 rfl (sp_meets σ 2) (fun r20 σ21 hq22 => ?_)
                obtain ⟨rfl, rfl⟩ := hq22
                refine sw_blk k_X8_copy 0 116 [(0, .inr (.inr 26)), (1, .inl s), (2, .inl i), (3, .inl t), (4, .inl j), (5, .inl m)] [.inl (-10 - 2)] (sw_u σ 26 39 2) rfl ?_
                refine sw_ireturn k_X8_copy rfl rfl ?_
                exact Or.inr (Or.inr (Or.inr (Or.inl ⟨by omega, rfl, rfl⟩)))
              · refine sw_blk k_X8_copy 1 73 [(0, .inr (.inr 26)), (1, .inl s), (2, .inl i), (3, .inl t), (4, .inl j), (5, .inl m)] [.inl m] σ rfl ?_
                refine sw_if_lt k_X8_copy rfl (by omega) 111 76 (by decide) rfl (fun c23 => ?_) (fun c23 => ?_)
                · refine sw_blk k_X8_copy 2 113 [(0, .inr (.inr 26)), (1, .inl s), (2, .inl i), (3, .inl t), (4, .inl j), (5, .inl m)] [.inl 2, .inr (.inr 26)] σ rfl ?_
                  refine sw_callV k_X8_copy rfl cV_X8_meets ml_X8_197 ⟨by decide, by decide⟩ 26 rfl rfl [.inl 2] [] rfl rfl (Nat.le_of_ble_eq_true rfl) 116 rfl (sp_meets σ 2) (fun r24 σ25 hq26 => ?_)
                  obtain ⟨rfl, rfl⟩ := hq26
                  refine sw_blk k_X8_copy 0 116 [(0, .inr (.inr 26)), (1, .inl s), (2, .inl i), (3, .inl t), (4, .inl j), (5, .inl m)] [.inl (-10 - 2)] (sw_u σ 26 39 2) rfl ?_
                  refine sw_ireturn k_X8_copy rfl rfl ?_
                  exact Or.inr (Or.inr (Or.inr (Or.inl ⟨by omega, rfl, rfl⟩)))
                · refine sw_blk k_X8_copy 1 77 [(0, .inr (.inr 26)), (1, .inl s), (2, .inl i), (3, .inl t), (4, .inl j), (5, .inl m)] [.inl i] σ rfl ?_
                  refine sw_i2l k_X8_copy rfl (by omega) 78 rfl ?_
                  refine sw_blk k_X8_copy 1 80 [(0, .inr (.inr 26)), (1, .inl s), (2, .inl i), (3, .inl t), (4, .inl j), (5, .inl m)] [.inl m, .inr (.inl i)] σ rfl ?_
                  refine sw_i2l k_X8_copy rfl (by omega) 81 rfl ?_
                  refine sw_blk k_X8_copy 4 87 [(0, .inr (.inr 26)), (1, .inl s), (2, .inl i), (3, .inl t), (4, .inl j), (5, .inl m)] [.inl s, .inr (.inr 43), .inr (.inl (i + m))] σ rfl ?_
                  refine sw_iald k_X8_copy rfl (i := 43) (n := 4) rfl (by decide) (by omega) (by omega) 88 rfl ?_
                  refine sw_blk k_X8_copy 0 88 [(0, .inr (.inr 26)), (1, .inl s), (2, .inl i), (3, .inl t), (4, .inl j), (5, .inl m)] [.inl (σ 43 s.toNat), .inr (.inl (i + m))] σ rfl ?_
                  refine sw_i2l k_X8_copy rfl (hσ 43 _) 89 rfl ?_
                  refine sw_lcmp k_X8_copy rfl (by omega) (by omega) 90 rfl (fun c27 => ?_) (fun c27 => ?_) (fun c27 => ?_)
                  · refine sw_if_gt k_X8_copy rfl (by decide) 111 93 (by decide) rfl (fun _ => ?_) (fun c => absurd (by decide) c)
                    refine sw_blk k_X8_copy 2 113 [(0, .inr (.inr 26)), (1, .inl s), (2, .inl i), (3, .inl t), (4, .inl j), (5, .inl m)] [.inl 2, .inr (.inr 26)] σ rfl ?_
                    refine sw_callV k_X8_copy rfl cV_X8_meets ml_X8_197 ⟨by decide, by decide⟩ 26 rfl rfl [.inl 2] [] rfl rfl (Nat.le_of_ble_eq_true rfl) 116 rfl (sp_meets σ 2) (fun r28 σ29 hq30 => ?_)
                    obtain ⟨rfl, rfl⟩ := hq30
                    refine sw_blk k_X8_copy 0 116 [(0, .inr (.inr 26)), (1, .inl s), (2, .inl i), (3, .inl t), (4, .inl j), (5, .inl m)] [.inl (-10 - 2)] (sw_u σ 26 39 2) rfl ?_
                    refine sw_ireturn k_X8_copy rfl rfl ?_
                    exact Or.inr (Or.inr (Or.inr (Or.inl ⟨by omega, rfl, rfl⟩)))
                  · refine sw_if_gt k_X8_copy rfl (by decide) 111 93 (by decide) rfl (fun c => absurd c (by decide)) (fun _ => ?_)
                    refine sw_blk k_X8_copy 1 95 [(0, .inr (.inr 26)), (1, .inl s), (2, .inl i), (3, .inl t), (4, .inl j), (5, .inl m)] [.inl j] σ rfl ?_
                    refine sw_i2l k_X8_copy rfl (by omega) 96 rfl ?_
                    refine sw_blk k_X8_copy 1 98 [(0, .inr (.inr 26)), (1, .inl s), (2, .inl i), (3, .inl t), (4, .inl j), (5, .inl m)] [.inl m, .inr (.inl j)] σ rfl ?_
                    refine sw_i2l k_X8_copy rfl (by omega) 99 rfl ?_
                    refine sw_blk k_X8_copy 4 105 [(0, .inr (.inr 26)), (1, .inl s), (2, .inl i), (3, .inl t), (4, .inl j), (5, .inl m)] [.inl t, .inr (.inr 43), .inr (.inl (j + m))] σ rfl ?_
                    refine sw_iald k_X8_copy rfl (i := 43) (n := 4) rfl (by decide) (by omega) (by omega) 106 rfl ?_
                    refine sw_blk k_X8_copy 0 106 [(0, .inr (.inr 26)), (1, .inl s), (2, .inl i), (3, .inl t), (4, .inl j), (5, .inl m)] [.inl (σ 43 t.toNat), .inr (.inl (j + m))] σ rfl ?_
                    refine sw_i2l k_X8_copy rfl (hσ 43 _) 107 rfl ?_
                    refine sw_lcmp k_X8_copy rfl (by omega) (by omega) 108 rfl (fun c31 => ?_) (fun c31 => ?_) (fun c31 => ?_)
                    · refine sw_if_le k_X8_copy rfl (by decide) 117 111 (by decide) rfl (fun c => absurd c (by decide)) (fun _ => ?_)
                      refine sw_blk k_X8_copy 2 113 [(0, .inr (.inr 26)), (1, .inl s), (2, .inl i), (3, .inl t), (4, .inl j), (5, .inl m)] [.inl 2, .inr (.inr 26)] σ rfl ?_
                      refine sw_callV k_X8_copy rfl cV_X8_meets ml_X8_197 ⟨by decide, by decide⟩ 26 rfl rfl [.inl 2] [] rfl rfl (Nat.le_of_ble_eq_true rfl) 116 rfl (sp_meets σ 2) (fun r32 σ33 hq34 => ?_)
                      obtain ⟨rfl, rfl⟩ := hq34
                      refine sw_blk k_X8_copy 0 116 [(0, .inr (.inr 26)), (1, .inl s), (2, .inl i), (3, .inl t), (4, .inl j), (5, .inl m)] [.inl (-10 - 2)] (sw_u σ 26 39 2) rfl ?_
                      refine sw_ireturn k_X8_copy rfl rfl ?_
                      exact Or.inr (Or.inr (Or.inr (Or.inl ⟨by omega, rfl, rfl⟩)))
                    · refine sw_if_le k_X8_copy rfl (by decide) 117 111 (by decide) rfl (fun _ => ?_) (fun c => absurd (by decide) c)
                      refine sw_blk k_X8_copy 2 120 [(6, .inl 0), (0, .inr (.inr 26)), (1, .inl s), (2, .inl i), (3, .inl t), (4, .inl j), (5, .inl m)] [] σ rfl ?_
                      have h := lp_mcopy1 σ hσ s i t j m (by omega) (by omega) (by omega) (by omega) (fun r σ' => (¬ ((0 ≤ s ∧ s ≤ 3) ∧ (0 ≤ t ∧ t ≤ 3)) ∧ r = some (.inl (-2)) ∧ σ = σ') ∨ ((((0 ≤ s ∧ s ≤ 3) ∧ (0 ≤ t ∧ t ≤ 3)) ∧ (σ 41 s.toNat = 0 ∨ σ 41 t.toNat = 0)) ∧ r = some (.inl (-10 - 1)) ∧ (sw_u σ 26 39 1) = σ') ∨ ((((0 ≤ s ∧ s ≤ 3) ∧ (0 ≤ t ∧ t ≤ 3)) ∧ ¬ (σ 41 s.toNat = 0 ∨ σ 41 t.toNat = 0) ∧ ¬ σ 42 s.toNat = σ 42 t.toNat) ∧ r = some (.inl (-10 - 4)) ∧ (sw_u σ 26 39 4) = σ') ∨ ((((0 ≤ s ∧ s ≤ 3) ∧ (0 ≤ t ∧ t ≤ 3)) ∧ ¬ (σ 41 s.toNat = 0 ∨ σ 41 t.toNat = 0) ∧ σ 42 s.toNat = σ 42 t.toNat ∧ ¬ ((0 ≤ i ∧ 0 ≤ m ∧ i ≤ σ 43 s.toNat - m) ∧ (0 ≤ j ∧ 0 ≤ m ∧ j ≤ σ 43 t.toNat - m))) ∧ r = some (.inl (-10 - 2)) ∧ (sw_u σ 26 39 2) = σ') ∨ ((((0 ≤ s ∧ s ≤ 3) ∧ (0 ≤ t ∧ t ≤ 3)) ∧ ¬ (σ 41 s.toNat = 0 ∨ σ 41 t.toNat = 0) ∧ σ 42 s.toNat = σ 42 t.toNat ∧ ((0 ≤ i ∧ 0 ≤ m ∧ i ≤ σ 43 s.toNat - m) ∧ (0 ≤ j ∧ 0 ≤ m ∧ j ≤ σ 43 t.toNat - m))) ∧ r = some (.inl (1)) ∧ (sw_pg (sw_pf σ 45 (fun k : Nat => σ 44 (60 * s + i + (k : Int)).toNat) m.toNat) 44 (60 * t + j).toNat ((sw_pf σ 45 (fun k : Nat => σ 44 (60 * s + i + (k : Int)).toNat) m.toNat) 45) m.toNat) = σ')) (Or.inr (Or.inr (Or.inr (Or.inr (⟨by omega, rfl, rfl⟩))))) 62 0 (by omega) (by omega)
                      rw [sw_pf_0] at h
                      exact h
                    · refine sw_if_le k_X8_copy rfl (by decide) 117 111 (by decide) rfl (fun _ => ?_) (fun c => absurd (by decide) c)
                      refine sw_blk k_X8_copy 2 120 [(6, .inl 0), (0, .inr (.inr 26)), (1, .inl s), (2, .inl i), (3, .inl t), (4, .inl j), (5, .inl m)] [] σ rfl ?_
                      have h := lp_mcopy1 σ hσ s i t j m (by omega) (by omega) (by omega) (by omega) (fun r σ' => (¬ ((0 ≤ s ∧ s ≤ 3) ∧ (0 ≤ t ∧ t ≤ 3)) ∧ r = some (.inl (-2)) ∧ σ = σ') ∨ ((((0 ≤ s ∧ s ≤ 3) ∧ (0 ≤ t ∧ t ≤ 3)) ∧ (σ 41 s.toNat = 0 ∨ σ 41 t.toNat = 0)) ∧ r = some (.inl (-10 - 1)) ∧ (sw_u σ 26 39 1) = σ') ∨ ((((0 ≤ s ∧ s ≤ 3) ∧ (0 ≤ t ∧ t ≤ 3)) ∧ ¬ (σ 41 s.toNat = 0 ∨ σ 41 t.toNat = 0) ∧ ¬ σ 42 s.toNat = σ 42 t.toNat) ∧ r = some (.inl (-10 - 4)) ∧ (sw_u σ 26 39 4) = σ') ∨ ((((0 ≤ s ∧ s ≤ 3) ∧ (0 ≤ t ∧ t ≤ 3)) ∧ ¬ (σ 41 s.toNat = 0 ∨ σ 41 t.toNat = 0) ∧ σ 42 s.toNat = σ 42 t.toNat ∧ ¬ ((0 ≤ i ∧ 0 ≤ m ∧ i ≤ σ 43 s.toNat - m) ∧ (0 ≤ j ∧ 0 ≤ m ∧ j ≤ σ 43 t.toNat - m))) ∧ r = some (.inl (-10 - 2)) ∧ (sw_u σ 26 39 2) = σ') ∨ ((((0 ≤ s ∧ s ≤ 3) ∧ (0 ≤ t ∧ t ≤ 3)) ∧ ¬ (σ 41 s.toNat = 0 ∨ σ 41 t.toNat = 0) ∧ σ 42 s.toNat = σ 42 t.toNat ∧ ((0 ≤ i ∧ 0 ≤ m ∧ i ≤ σ 43 s.toNat - m) ∧ (0 ≤ j ∧ 0 ≤ m ∧ j ≤ σ 43 t.toNat - m))) ∧ r = some (.inl (1)) ∧ (sw_pg (sw_pf σ 45 (fun k : Nat => σ 44 (60 * s + i + (k : Int)).toNat) m.toNat) 44 (60 * t + j).toNat ((sw_pf σ 45 (fun k : Nat => σ 44 (60 * s + i + (k : Int)).toNat) m.toNat) 45) m.toNat) = σ')) (Or.inr (Or.inr (Or.inr (Or.inr (⟨by omega, rfl, rfl⟩))))) 62 0 (by omega) (by omega)
                      rw [sw_pf_0] at h
                      exact h
                  · refine sw_if_gt k_X8_copy rfl (by decide) 111 93 (by decide) rfl (fun c => absurd c (by decide)) (fun _ => ?_)
                    refine sw_blk k_X8_copy 1 95 [(0, .inr (.inr 26)), (1, .inl s), (2, .inl i), (3, .inl t), (4, .inl j), (5, .inl m)] [.inl j] σ rfl ?_
                    refine sw_i2l k_X8_copy rfl (by omega) 96 rfl ?_
                    refine sw_blk k_X8_copy 1 98 [(0, .inr (.inr 26)), (1, .inl s), (2, .inl i), (3, .inl t), (4, .inl j), (5, .inl m)] [.inl m, .inr (.inl j)] σ rfl ?_
                    refine sw_i2l k_X8_copy rfl (by omega) 99 rfl ?_
                    refine sw_blk k_X8_copy 4 105 [(0, .inr (.inr 26)), (1, .inl s), (2, .inl i), (3, .inl t), (4, .inl j), (5, .inl m)] [.inl t, .inr (.inr 43), .inr (.inl (j + m))] σ rfl ?_
                    refine sw_iald k_X8_copy rfl (i := 43) (n := 4) rfl (by decide) (by omega) (by omega) 106 rfl ?_
                    refine sw_blk k_X8_copy 0 106 [(0, .inr (.inr 26)), (1, .inl s), (2, .inl i), (3, .inl t), (4, .inl j), (5, .inl m)] [.inl (σ 43 t.toNat), .inr (.inl (j + m))] σ rfl ?_
                    refine sw_i2l k_X8_copy rfl (hσ 43 _) 107 rfl ?_
                    refine sw_lcmp k_X8_copy rfl (by omega) (by omega) 108 rfl (fun c35 => ?_) (fun c35 => ?_) (fun c35 => ?_)
                    · refine sw_if_le k_X8_copy rfl (by decide) 117 111 (by decide) rfl (fun c => absurd c (by decide)) (fun _ => ?_)
                      refine sw_blk k_X8_copy 2 113 [(0, .inr (.inr 26)), (1, .inl s), (2, .inl i), (3, .inl t), (4, .inl j), (5, .inl m)] [.inl 2, .inr (.inr 26)] σ rfl ?_
                      refine sw_callV k_X8_copy rfl cV_X8_meets ml_X8_197 ⟨by decide, by decide⟩ 26 rfl rfl [.inl 2] [] rfl rfl (Nat.le_of_ble_eq_true rfl) 116 rfl (sp_meets σ 2) (fun r36 σ37 hq38 => ?_)
                      obtain ⟨rfl, rfl⟩ := hq38
                      refine sw_blk k_X8_copy 0 116 [(0, .inr (.inr 26)), (1, .inl s), (2, .inl i), (3, .inl t), (4, .inl j), (5, .inl m)] [.inl (-10 - 2)] (sw_u σ 26 39 2) rfl ?_
                      refine sw_ireturn k_X8_copy rfl rfl ?_
                      exact Or.inr (Or.inr (Or.inr (Or.inl ⟨by omega, rfl, rfl⟩)))
                    · refine sw_if_le k_X8_copy rfl (by decide) 117 111 (by decide) rfl (fun _ => ?_) (fun c => absurd (by decide) c)
                      refine sw_blk k_X8_copy 2 120 [(6, .inl 0), (0, .inr (.inr 26)), (1, .inl s), (2, .inl i), (3, .inl t), (4, .inl j), (5, .inl m)] [] σ rfl ?_
                      have h := lp_mcopy1 σ hσ s i t j m (by omega) (by omega) (by omega) (by omega) (fun r σ' => (¬ ((0 ≤ s ∧ s ≤ 3) ∧ (0 ≤ t ∧ t ≤ 3)) ∧ r = some (.inl (-2)) ∧ σ = σ') ∨ ((((0 ≤ s ∧ s ≤ 3) ∧ (0 ≤ t ∧ t ≤ 3)) ∧ (σ 41 s.toNat = 0 ∨ σ 41 t.toNat = 0)) ∧ r = some (.inl (-10 - 1)) ∧ (sw_u σ 26 39 1) = σ') ∨ ((((0 ≤ s ∧ s ≤ 3) ∧ (0 ≤ t ∧ t ≤ 3)) ∧ ¬ (σ 41 s.toNat = 0 ∨ σ 41 t.toNat = 0) ∧ ¬ σ 42 s.toNat = σ 42 t.toNat) ∧ r = some (.inl (-10 - 4)) ∧ (sw_u σ 26 39 4) = σ') ∨ ((((0 ≤ s ∧ s ≤ 3) ∧ (0 ≤ t ∧ t ≤ 3)) ∧ ¬ (σ 41 s.toNat = 0 ∨ σ 41 t.toNat = 0) ∧ σ 42 s.toNat = σ 42 t.toNat ∧ ¬ ((0 ≤ i ∧ 0 ≤ m ∧ i ≤ σ 43 s.toNat - m) ∧ (0 ≤ j ∧ 0 ≤ m ∧ j ≤ σ 43 t.toNat - m))) ∧ r = some (.inl (-10 - 2)) ∧ (sw_u σ 26 39 2) = σ') ∨ ((((0 ≤ s ∧ s ≤ 3) ∧ (0 ≤ t ∧ t ≤ 3)) ∧ ¬ (σ 41 s.toNat = 0 ∨ σ 41 t.toNat = 0) ∧ σ 42 s.toNat = σ 42 t.toNat ∧ ((0 ≤ i ∧ 0 ≤ m ∧ i ≤ σ 43 s.toNat - m) ∧ (0 ≤ j ∧ 0 ≤ m ∧ j ≤ σ 43 t.toNat - m))) ∧ r = some (.inl (1)) ∧ (sw_pg (sw_pf σ 45 (fun k : Nat => σ 44 (60 * s + i + (k : Int)).toNat) m.toNat) 44 (60 * t + j).toNat ((sw_pf σ 45 (fun k : Nat => σ 44 (60 * s + i + (k : Int)).toNat) m.toNat) 45) m.toNat) = σ')) (Or.inr (Or.inr (Or.inr (Or.inr (⟨by omega, rfl, rfl⟩))))) 62 0 (by omega) (by omega)
                      rw [sw_pf_0] at h
                      exact h
                    · refine sw_if_le k_X8_copy rfl (by decide) 117 111 (by decide) rfl (fun _ => ?_) (fun c => absurd (by decide) c)
                      refine sw_blk k_X8_copy 2 120 [(6, .inl 0), (0, .inr (.inr 26)), (1, .inl s), (2, .inl i), (3, .inl t), (4, .inl j), (5, .inl m)] [] σ rfl ?_
                      have h := lp_mcopy1 σ hσ s i t j m (by omega) (by omega) (by omega) (by omega) (fun r σ' => (¬ ((0 ≤ s ∧ s ≤ 3) ∧ (0 ≤ t ∧ t ≤ 3)) ∧ r = some (.inl (-2)) ∧ σ = σ') ∨ ((((0 ≤ s ∧ s ≤ 3) ∧ (0 ≤ t ∧ t ≤ 3)) ∧ (σ 41 s.toNat = 0 ∨ σ 41 t.toNat = 0)) ∧ r = some (.inl (-10 - 1)) ∧ (sw_u σ 26 39 1) = σ') ∨ ((((0 ≤ s ∧ s ≤ 3) ∧ (0 ≤ t ∧ t ≤ 3)) ∧ ¬ (σ 41 s.toNat = 0 ∨ σ 41 t.toNat = 0) ∧ ¬ σ 42 s.toNat = σ 42 t.toNat) ∧ r = some (.inl (-10 - 4)) ∧ (sw_u σ 26 39 4) = σ') ∨ ((((0 ≤ s ∧ s ≤ 3) ∧ (0 ≤ t ∧ t ≤ 3)) ∧ ¬ (σ 41 s.toNat = 0 ∨ σ 41 t.toNat = 0) ∧ σ 42 s.toNat = σ 42 t.toNat ∧ ¬ ((0 ≤ i ∧ 0 ≤ m ∧ i ≤ σ 43 s.toNat - m) ∧ (0 ≤ j ∧ 0 ≤ m ∧ j ≤ σ 43 t.toNat - m))) ∧ r = some (.inl (-10 - 2)) ∧ (sw_u σ 26 39 2) = σ') ∨ ((((0 ≤ s ∧ s ≤ 3) ∧ (0 ≤ t ∧ t ≤ 3)) ∧ ¬ (σ 41 s.toNat = 0 ∨ σ 41 t.toNat = 0) ∧ σ 42 s.toNat = σ 42 t.toNat ∧ ((0 ≤ i ∧ 0 ≤ m ∧ i ≤ σ 43 s.toNat - m) ∧ (0 ≤ j ∧ 0 ≤ m ∧ j ≤ σ 43 t.toNat - m))) ∧ r = some (.inl (1)) ∧ (sw_pg (sw_pf σ 45 (fun k : Nat => σ 44 (60 * s + i + (k : Int)).toNat) m.toNat) 44 (60 * t + j).toNat ((sw_pf σ 45 (fun k : Nat => σ 44 (60 * s + i + (k : Int)).toNat) m.toNat) 45) m.toNat) = σ')) (Or.inr (Or.inr (Or.inr (Or.inr (⟨by omega, rfl, rfl⟩))))) 62 0 (by omega) (by omega)
                      rw [sw_pf_0] at h
                      exact h
          · refine sw_blk k_X8_copy 2 58 [(0, .inr (.inr 26)), (1, .inl s), (2, .inl i), (3, .inl t), (4, .inl j), (5, .inl m)] [.inl 4, .inr (.inr 26)] σ rfl ?_
            refine sw_callV k_X8_copy rfl cV_X8_meets ml_X8_197 ⟨by decide, by decide⟩ 26 rfl rfl [.inl 4] [] rfl rfl (Nat.le_of_ble_eq_true rfl) 61 rfl (sp_meets σ 4) (fun r39 σ40 hq41 => ?_)
            obtain ⟨rfl, rfl⟩ := hq41
            refine sw_blk k_X8_copy 0 61 [(0, .inr (.inr 26)), (1, .inl s), (2, .inl i), (3, .inl t), (4, .inl j), (5, .inl m)] [.inl (-10 - 4)] (sw_u σ 26 39 4) rfl ?_
            refine sw_ireturn k_X8_copy rfl rfl ?_
            exact Or.inr (Or.inr (Or.inl ⟨by omega, rfl, rfl⟩))
        · refine sw_blk k_X8_copy 2 37 [(0, .inr (.inr 26)), (1, .inl s), (2, .inl i), (3, .inl t), (4, .inl j), (5, .inl m)] [.inl 1, .inr (.inr 26)] σ rfl ?_
          refine sw_callV k_X8_copy rfl cV_X8_meets ml_X8_197 ⟨by decide, by decide⟩ 26 rfl rfl [.inl 1] [] rfl rfl (Nat.le_of_ble_eq_true rfl) 40 rfl (sp_meets σ 1) (fun r42 σ43 hq44 => ?_)
          obtain ⟨rfl, rfl⟩ := hq44
          refine sw_blk k_X8_copy 0 40 [(0, .inr (.inr 26)), (1, .inl s), (2, .inl i), (3, .inl t), (4, .inl j), (5, .inl m)] [.inl (-10 - 1)] (sw_u σ 26 39 1) rfl ?_
          refine sw_ireturn k_X8_copy rfl rfl ?_
          exact Or.inr (Or.inl ⟨by omega, rfl, rfl⟩)
    · refine sw_blk k_X8_copy 0 11 [(0, .inr (.inr 26)), (1, .inl s), (2, .inl i), (3, .inl t), (4, .inl j), (5, .inl m)] [.inl 0] σ rfl ?_
      refine sw_if_ne k_X8_copy rfl (by decide) 17 14 (by decide) rfl (fun c => absurd (by decide) c) (fun _ => ?_)
      refine sw_blk k_X8_copy 1 16 [(0, .inr (.inr 26)), (1, .inl s), (2, .inl i), (3, .inl t), (4, .inl j), (5, .inl m)] [.inl (-2)] σ rfl ?_
      refine sw_ireturn k_X8_copy rfl rfl ?_
      exact Or.inl ⟨by omega, rfl, rfl⟩
  · refine sw_blk k_X8_copy 0 4 [(0, .inr (.inr 26)), (1, .inl s), (2, .inl i), (3, .inl t), (4, .inl j), (5, .inl m)] [.inl 0] σ rfl ?_
    refine sw_if_eq k_X8_copy rfl (by decide) 14 7 (by decide) rfl (fun _ => ?_) (fun c => absurd (by decide) c)
    refine sw_blk k_X8_copy 1 16 [(0, .inr (.inr 26)), (1, .inl s), (2, .inl i), (3, .inl t), (4, .inl j), (5, .inl m)] [.inl (-2)] σ rfl ?_
    refine sw_ireturn k_X8_copy rfl rfl ?_
    exact Or.inl ⟨by omega, rfl, rfl⟩
theorem sw_stm_g {N : Int} {σ : sw_S} (g : sw_gs σ) (v : sw_mv N σ) (x : Int) : sw_g (sw_stm σ x) := by
  obtain ⟨hD, hV, hz, hpl, hspd, hbr, hmg, h0, h1, h2, hti, hen, hbk, haw, hrd⟩ := v
  have c := sw_cnt_le (σ 32) 8
  have t7 : sw_g (if σ 26 12 = 1 then σ 26 22 - σ 26 23 else 0) := by
    by_cases z : σ 26 12 = 1
    · have := hrd z
      rw [if_pos z]; omega
    · rw [if_neg z]; omega
  unfold sw_stm
  refine sw_ite_g (g 26 10) (sw_ite_g (g 26 11) (sw_ite_g (g 26 12) (sw_ite_g (g 26 13) (sw_ite_g (by omega) (sw_ite_g (by omega) (sw_ite_g (g 26 18) (sw_ite_g t7 (sw_ite_g (g 26 19) (sw_ite_g (g 26 20) (sw_ite_g (g 26 3) (sw_ite_g (g 26 7) (sw_ite_g (g 26 39) (by omega)))))))))))))
theorem lp_mdig3 (σ : sw_S) (N : Int) (v : sw_mv N σ) (hσ : sw_gs σ) (K : Int) (hK : K = (if σ 26 12 = 1 then σ 26 22 - σ 26 23 else 0)) (Q : Option sw_Vl → sw_S → Prop) (hQ : Q (some (.inr (.inl (sw_hs (fun j : Nat => σ 34 ((σ 26 23).toNat + j)) (sw_hs (σ 40) (sw_hs (fun j : Nat => sw_stm σ (j : Int)) 17 12) 60) (if σ 26 12 = 1 then σ 26 22 - σ 26 23 else 0).toNat)))) σ) : ∀ (n : Nat) (j : Nat) (kk h : Int), (j : Int) ≤ K → kk = σ 26 23 + (j : Int) → h = (sw_hs (fun j : Nat => σ 34 ((σ 26 23).toNat + j)) (sw_hs (σ 40) (sw_hs (fun j : Nat => sw_stm σ (j : Int)) 17 12) 60) j) → 500 - j < n → sw_E sw_ly sw_rho M_X8_digest 64 [(3, .inl kk), (1, .inr (.inl h)), (0, .inr (.inr 26))] [] σ Q := by
  intro n
  induction n with
  | zero =>
    intro j kk h hj ek hh hn
    omega
  | succ n ih =>
    intro j kk h hj ek hh hn
    have hrd := v.2.2.2.2.2.2.2.2.2.2.2.2.2.2
    have g23 := hσ 26 23
    have hL : (σ 26 12 = 1 → K = σ 26 22 - σ 26 23) ∧ (¬ σ 26 12 = 1 → K = 0) := by rw [hK]; exact ⟨fun z => if_pos z, fun z => if_neg z⟩
    have gk : sw_g kk ∧ 0 ≤ K ∧ (σ 26 12 = 1 → 0 ≤ σ 26 23 ∧ σ 26 22 ≤ 400) := by
      by_cases z : σ 26 12 = 1
      · have := (hrd z).1; have := hL.1 z; omega
      · have := hL.2 z; omega
    refine sw_blk k_X8_digest 3 69 [(3, .inl kk), (1, .inr (.inl h)), (0, .inr (.inr 26))] [.inl (σ 26 22), .inl kk] σ rfl ?_
    refine sw_icmp_ge k_X8_digest rfl gk.1 (hσ 26 _) 100 72 (by decide) rfl (fun c1 => ?_) (fun c1 => ?_)
    · refine sw_blk k_X8_digest 1 101 [(3, .inl kk), (1, .inr (.inl h)), (0, .inr (.inr 26))] [.inr (.inl h)] σ rfl ?_
      refine sw_lreturn k_X8_digest rfl rfl ?_
      have e : (j : Int) = K := by omega
      rw [show (if σ 26 12 = 1 then σ 26 22 - σ 26 23 else 0).toNat = j by rw [← hK]; omega, ← hh] at hQ
      exact hQ
    · refine sw_blk k_X8_digest 3 77 [(3, .inl kk), (1, .inr (.inl h)), (0, .inr (.inr 26))] [.inl 1, .inl (σ 26 12)] σ rfl ?_
      refine sw_icmp_ne k_X8_digest rfl (hσ 26 _) (by decide) 100 80 (by decide) rfl (fun c2 => ?_) (fun c2 => ?_)
      · refine sw_blk k_X8_digest 1 101 [(3, .inl kk), (1, .inr (.inl h)), (0, .inr (.inr 26))] [.inr (.inl h)] σ rfl ?_
        refine sw_lreturn k_X8_digest rfl rfl ?_
        have e : (j : Int) = K := by omega
        rw [show (if σ 26 12 = 1 then σ 26 22 - σ 26 23 else 0).toNat = j by rw [← hK]; omega, ← hh] at hQ
        exact hQ
      · refine sw_blk k_X8_digest 6 90 [(3, .inl kk), (1, .inr (.inl h)), (0, .inr (.inr 26))] [.inl kk, .inr (.inr 34), .inr (.inl (31 * h))] σ rfl ?_
        refine sw_iald k_X8_digest rfl (i := 34) (n := 600) rfl (by decide) (by omega) (by omega) 91 rfl ?_
        refine sw_blk k_X8_digest 0 91 [(3, .inl kk), (1, .inr (.inl h)), (0, .inr (.inr 26))] [.inl (σ 34 kk.toNat), .inr (.inl (31 * h))] σ rfl ?_
        refine sw_i2l k_X8_digest rfl (hσ 34 _) 92 rfl ?_
        refine sw_blk k_X8_digest 4 64 [(3, .inl (kk + 1)), (1, .inr (.inl ((31 * h) + (σ 34 kk.toNat)))), (0, .inr (.inr 26))] [] σ rfl ?_
        exact ih (j + 1) _ _ (by omega) (by omega) (by rw [hh, show kk.toNat = (σ 26 23).toNat + j by omega]; rfl) (by omega)
theorem lp_mdig2 (σ : sw_S) (N : Int) (v : sw_mv N σ) (hσ : sw_gs σ) (Q : Option sw_Vl → sw_S → Prop) (hQ : Q (some (.inr (.inl (sw_hs (fun j : Nat => σ 34 ((σ 26 23).toNat + j)) (sw_hs (σ 40) (sw_hs (fun j : Nat => sw_stm σ (j : Int)) 17 12) 60) (if σ 26 12 = 1 then σ 26 22 - σ 26 23 else 0).toNat)))) σ) : ∀ (n : Nat) (k : Nat) (h : Int), (k : Int) ≤ 60 → h = (sw_hs (σ 40) (sw_hs (fun j : Nat => sw_stm σ (j : Int)) 17 12) k) → 500 - k < n → sw_E sw_ly sw_rho M_X8_digest 33 [(3, .inl (k : Int)), (1, .inr (.inl h)), (0, .inr (.inr 26))] [] σ Q := by
  intro n
  induction n with
  | zero =>
    intro k h hk hh hn
    omega
  | succ n ih =>
    intro k h hk hh hn
    refine sw_blk k_X8_digest 2 36 [(3, .inl (k : Int)), (1, .inr (.inl h)), (0, .inr (.inr 26))] [.inl 60, .inl (k : Int)] σ rfl ?_
    refine sw_icmp_ge k_X8_digest rfl (by omega) (by decide) 59 39 (by decide) rfl (fun c1 => ?_) (fun c1 => ?_)
    · refine sw_blk k_X8_digest 3 64 [(3, .inl (σ 26 23)), (1, .inr (.inl h)), (0, .inr (.inr 26))] [] σ rfl ?_
      have e : k = 60 := by omega
      subst e
      refine lp_mdig3 σ N v hσ _ rfl Q hQ 501 0 (σ 26 23) h ?_ (by omega) hh (by omega)
      by_cases z : σ 26 12 = 1
      · have := (v.2.2.2.2.2.2.2.2.2.2.2.2.2.2 z).1; rw [if_pos z]; omega
      · rw [if_neg z]; omega
    · refine sw_blk k_X8_digest 6 49 [(3, .inl (k : Int)), (1, .inr (.inl h)), (0, .inr (.inr 26))] [.inl (k : Int), .inr (.inr 40), .inr (.inl (31 * h))] σ rfl ?_
      refine sw_iald k_X8_digest rfl (i := 40) (n := 60) rfl (by decide) (by omega) (by omega) 50 rfl ?_
      refine sw_blk k_X8_digest 0 50 [(3, .inl (k : Int)), (1, .inr (.inl h)), (0, .inr (.inr 26))] [.inl (σ 40 k), .inr (.inl (31 * h))] σ rfl ?_
      refine sw_i2l k_X8_digest rfl (hσ 40 _) 51 rfl ?_
      refine sw_blk k_X8_digest 4 33 [(3, .inl ((k : Int) + 1)), (1, .inr (.inl ((31 * h) + (σ 40 k)))), (0, .inr (.inr 26))] [] σ rfl ?_
      exact ih (k + 1) _ (by omega) (by rw [hh]; rfl) (by omega)
theorem lp_mdig1 (σ : sw_S) (N : Int) (v : sw_mv N σ) (hσ : sw_gs σ) (Q : Option sw_Vl → sw_S → Prop) (hQ : Q (some (.inr (.inl (sw_hs (fun j : Nat => σ 34 ((σ 26 23).toNat + j)) (sw_hs (σ 40) (sw_hs (fun j : Nat => sw_stm σ (j : Int)) 17 12) 60) (if σ 26 12 = 1 then σ 26 22 - σ 26 23 else 0).toNat)))) σ) : ∀ (n : Nat) (k : Nat) (h : Int), (k : Int) ≤ 12 → h = (sw_hs (fun j : Nat => sw_stm σ (j : Int)) 17 k) → 500 - k < n → sw_E sw_ly sw_rho M_X8_digest 6 [(3, .inl (k : Int)), (1, .inr (.inl h)), (0, .inr (.inr 26))] [] σ Q := by
  intro n
  induction n with
  | zero =>
    intro k h hk hh hn
    omega
  | succ n ih =>
    intro k h hk hh hn
    refine sw_blk k_X8_digest 2 9 [(3, .inl (k : Int)), (1, .inr (.inl h)), (0, .inr (.inr 26))] [.inl 12, .inl (k : Int)] σ rfl ?_
    refine sw_icmp_ge k_X8_digest rfl (by omega) (by decide) 31 12 (by decide) rfl (fun c1 => ?_) (fun c1 => ?_)
    · refine sw_blk k_X8_digest 2 33 [(3, .inl 0), (1, .inr (.inl h)), (0, .inr (.inr 26))] [] σ rfl ?_
      have e : k = 12 := by omega
      subst e
      exact lp_mdig2 σ N v hσ Q hQ 501 0 h (by omega) hh (by omega)
    · refine sw_blk k_X8_digest 5 19 [(3, .inl (k : Int)), (1, .inr (.inl h)), (0, .inr (.inr 26))] [.inl (k : Int), .inr (.inr 26), .inr (.inl (31 * h))] σ rfl ?_
      refine sw_callV k_X8_digest rfl cV_X8_state ml_X8_215 ⟨by decide, by decide⟩ 26 rfl rfl [.inl (k : Int)] [.inr (.inl (31 * h))] rfl rfl (Nat.le_of_ble_eq_true rfl) 22 rfl (mm_state σ hσ (k : Int) (by omega)) (fun r2 σ3 hq4 => ?_)
      obtain ⟨rfl, rfl⟩ := hq4
      refine sw_blk k_X8_digest 0 22 [(3, .inl (k : Int)), (1, .inr (.inl h)), (0, .inr (.inr 26))] [.inl (sw_stm σ (k : Int)), .inr (.inl (31 * h))] σ rfl ?_
      refine sw_i2l k_X8_digest rfl (sw_stm_g hσ v _) 23 rfl ?_
      refine sw_blk k_X8_digest 4 6 [(3, .inl ((k : Int) + 1)), (1, .inr (.inl ((31 * h) + (sw_stm σ (k : Int))))), (0, .inr (.inr 26))] [] σ rfl ?_
      exact ih (k + 1) _ (by omega) (by rw [hh]; rfl) (by omega)
theorem mm_digest (σ : sw_S) (N : Int) (v : sw_mv N σ) (hσ : sw_gs σ) : sw_Con sw_ly sw_rho M_X8_digest [.inr (.inr 26)] σ (fun r σ' => σ = σ' ∧ r = some (.inr (.inl (sw_hs (fun j : Nat => σ 34 ((σ 26 23).toNat + j)) (sw_hs (σ 40) (sw_hs (fun j : Nat => sw_stm σ (j : Int)) 17 12) 60) (if σ 26 12 = 1 then σ 26 22 - σ 26 23 else 0).toNat)))) := by
  refine sw_con (by decide) (Nat.le_of_ble_eq_true rfl) ?_
  refine sw_blk k_X8_digest 4 6 [(3, .inl 0), (1, .inr (.inl 17)), (0, .inr (.inr 26))] [] σ rfl ?_
  exact lp_mdig1 σ N v hσ _ ⟨rfl, rfl⟩ 501 0 17 (by omega) rfl (by omega)
