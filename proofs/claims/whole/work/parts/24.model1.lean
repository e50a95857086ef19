theorem sp_mPlace (σ : sw_S) (p : Int) (gp : sw_g p) (h26_0 : sw_g (σ 26 0)) : sw_Con sw_ly sw_rho M_X8_isPlace [.inr (.inr 26), .inl p] σ (fun r σ' => σ = σ' ∧ ((0 ≤ p ∧ p ≤ σ 26 0) ∧ r = some (.inl 1) ∨ ¬ (0 ≤ p ∧ p ≤ σ 26 0) ∧ r = some (.inl 0))) := by
  refine sw_con (by decide) (Nat.le_of_ble_eq_true rfl) ?_
  refine sw_blk k_X8_isPlace 4 6 [(0, .inr (.inr 26)), (1, .inl p)] [.inl (σ 26 0), .inl 0, .inl p] σ rfl ?_
  refine sw_callS k_X8_isPlace rfl cS_X8_in ml_X8_87 ⟨by decide, by decide⟩ [.inl p, .inl 0, .inl (σ 26 0)] [] rfl rfl (Nat.le_of_ble_eq_true rfl) 9 rfl (sp_in σ p 0 (σ 26 0) (by omega) (by decide) h26_0) (fun r2 σ3 hq4 => ?_)
  obtain ⟨rfl, ⟨p1, rfl⟩ | ⟨p1, rfl⟩⟩ := hq4
  · refine sw_blk k_X8_isPlace 0 9 [(0, .inr (.inr 26)), (1, .inl p)] [.inl 1] σ rfl ?_
    refine sw_zreturn k_X8_isPlace rfl rfl (by decide) ?_
    exact ⟨rfl, Or.inl ⟨by omega, rfl⟩⟩
  · refine sw_blk k_X8_isPlace 0 9 [(0, .inr (.inr 26)), (1, .inl p)] [.inl 0] σ rfl ?_
    refine sw_zreturn k_X8_isPlace rfl rfl (by decide) ?_
    exact ⟨rfl, Or.inr ⟨by omega, rfl⟩⟩
theorem mm_shaft (σ : sw_S) (hσ : sw_gs σ) (d v a : Int) (gd : sw_g d) (gv : sw_g v) (ga : sw_g a) : sw_Con sw_ly sw_rho M_X8_shaft [.inr (.inr 26), .inl d, .inl v, .inl a] σ (fun r σ' => (¬ ((10 ≤ d ∧ d ≤ 400) ∧ (1 ≤ v ∧ v ≤ 20) ∧ (1 ≤ a ∧ a ≤ 5)) ∧ r = some (.inl (-2)) ∧ σ = σ') ∨ ((((10 ≤ d ∧ d ≤ 400) ∧ (1 ≤ v ∧ v ≤ 20) ∧ (1 ≤ a ∧ a ≤ 5)) ∧ ¬ σ 26 12 = 0) ∧ r = some (.inl (-4)) ∧ σ = σ') ∨ ((((10 ≤ d ∧ d ≤ 400) ∧ (1 ≤ v ∧ v ≤ 20) ∧ (1 ≤ a ∧ a ≤ 5)) ∧ σ 26 12 = 0) ∧ r = some (.inl (1)) ∧ (sw_u (sw_u (sw_u (sw_u (sw_u (sw_u σ 26 0 d) 26 1 v) 26 2 a) 26 3 0) 26 7 0) 26 10 0) = σ')) := by
  refine sw_con (by decide) (Nat.le_of_ble_eq_true rfl) ?_
  refine sw_blk k_X8_shaft 3 6 [(0, .inr (.inr 26)), (1, .inl d), (2, .inl v), (3, .inl a)] [.inl 400, .inl 10, .inl d] σ rfl ?_
  refine sw_callS k_X8_shaft rfl cS_X8_in ml_X8_87 ⟨by decide, by decide⟩ [.inl d, .inl 10, .inl 400] [] rfl rfl (Nat.le_of_ble_eq_true rfl) 9 rfl (sp_in σ d 10 400 (by omega) (by decide) (by decide)) (fun r2 σ3 hq4 => ?_)
  obtain ⟨rfl, ⟨p1, rfl⟩ | ⟨p1, rfl⟩⟩ := hq4
  · refine sw_blk k_X8_shaft 0 9 [(0, .inr (.inr 26)), (1, .inl d), (2, .inl v), (3, .inl a)] [.inl 1] σ rfl ?_
    refine sw_if_eq k_X8_shaft rfl (by decide) 31 12 (by decide) rfl (fun c => absurd c (by decide)) (fun _ => ?_)
    refine sw_blk k_X8_shaft 3 16 [(0, .inr (.inr 26)), (1, .inl d), (2, .inl v), (3, .inl a)] [.inl 20, .inl 1, .inl v] σ rfl ?_
    refine sw_callS k_X8_shaft rfl cS_X8_in ml_X8_87 ⟨by decide, by decide⟩ [.inl v, .inl 1, .inl 20] [] rfl rfl (Nat.le_of_ble_eq_true rfl) 19 rfl (sp_in σ v 1 20 (by omega) (by decide) (by decide)) (fun r6 σ7 hq8 => ?_)
    obtain ⟨rfl, ⟨p5, rfl⟩ | ⟨p5, rfl⟩⟩ := hq8
    · refine sw_blk k_X8_shaft 0 19 [(0, .inr (.inr 26)), (1, .inl d), (2, .inl v), (3, .inl a)] [.inl 1] σ rfl ?_
      refine sw_if_eq k_X8_shaft rfl (by decide) 31 22 (by decide) rfl (fun c => absurd c (by decide)) (fun _ => ?_)
      refine sw_blk k_X8_shaft 3 25 [(0, .inr (.inr 26)), (1, .inl d), (2, .inl v), (3, .inl a)] [.inl 5, .inl 1, .inl a] σ rfl ?_
      refine sw_callS k_X8_shaft rfl cS_X8_in ml_X8_87 ⟨by decide, by decide⟩ [.inl a, .inl 1, .inl 5] [] rfl rfl (Nat.le_of_ble_eq_true rfl) 28 rfl (sp_in σ a 1 5 (by omega) (by decide) (by decide)) (fun r10 σ11 hq12 => ?_)
      obtain ⟨rfl, ⟨p9, rfl⟩ | ⟨p9, rfl⟩⟩ := hq12
      · refine sw_blk k_X8_shaft 0 28 [(0, .inr (.inr 26)), (1, .inl d), (2, .inl v), (3, .inl a)] [.inl 1] σ rfl ?_
        refine sw_if_ne k_X8_shaft rfl (by decide) 34 31 (by decide) rfl (fun _ => ?_) (fun c => absurd c (by decide))
        refine sw_blk k_X8_shaft 2 38 [(0, .inr (.inr 26)), (1, .inl d), (2, .inl v), (3, .inl a)] [.inl (σ 26 12)] σ rfl ?_
        refine sw_if_eq k_X8_shaft rfl (hσ 26 _) 44 41 (by decide) rfl (fun c13 => ?_) (fun c13 => ?_)
        · refine sw_blk k_X8_shaft 19 75 [(0, .inr (.inr 26)), (1, .inl d), (2, .inl v), (3, .inl a)] [.inl 1] (sw_u (sw_u (sw_u (sw_u (sw_u (sw_u σ 26 0 d) 26 1 v) 26 2 a) 26 3 0) 26 7 0) 26 10 0) rfl ?_
          refine sw_ireturn k_X8_shaft rfl rfl ?_
          exact Or.inr (Or.inr (⟨by omega, rfl, rfl⟩))
        · refine sw_blk k_X8_shaft 1 43 [(0, .inr (.inr 26)), (1, .inl d), (2, .inl v), (3, .inl a)] [.inl (-4)] σ rfl ?_
          refine sw_ireturn k_X8_shaft rfl rfl ?_
          exact Or.inr (Or.inl ⟨by omega, rfl, rfl⟩)
      · refine sw_blk k_X8_shaft 0 28 [(0, .inr (.inr 26)), (1, .inl d), (2, .inl v), (3, .inl a)] [.inl 0] σ rfl ?_
        refine sw_if_ne k_X8_shaft rfl (by decide) 34 31 (by decide) rfl (fun c => absurd (by decide) c) (fun _ => ?_)
        refine sw_blk k_X8_shaft 1 33 [(0, .inr (.inr 26)), (1, .inl d), (2, .inl v), (3, .inl a)] [.inl (-2)] σ rfl ?_
        refine sw_ireturn k_X8_shaft rfl rfl ?_
        exact Or.inl ⟨by omega, rfl, rfl⟩
    · refine sw_blk k_X8_shaft 0 19 [(0, .inr (.inr 26)), (1, .inl d), (2, .inl v), (3, .inl a)] [.inl 0] σ rfl ?_
      refine sw_if_eq k_X8_shaft rfl (by decide) 31 22 (by decide) rfl (fun _ => ?_) (fun c => absurd (by decide) c)
      refine sw_blk k_X8_shaft 1 33 [(0, .inr (.inr 26)), (1, .inl d), (2, .inl v), (3, .inl a)] [.inl (-2)] σ rfl ?_
      refine sw_ireturn k_X8_shaft rfl rfl ?_
      exact Or.inl ⟨by omega, rfl, rfl⟩
  · refine sw_blk k_X8_shaft 0 9 [(0, .inr (.inr 26)), (1, .inl d), (2, .inl v), (3, .inl a)] [.inl 0] σ rfl ?_
    refine sw_if_eq k_X8_shaft rfl (by decide) 31 12 (by decide) rfl (fun _ => ?_) (fun c => absurd (by decide) c)
    refine sw_blk k_X8_shaft 1 33 [(0, .inr (.inr 26)), (1, .inl d), (2, .inl v), (3, .inl a)] [.inl (-2)] σ rfl ?_
    refine sw_ireturn k_X8_shaft rfl rfl ?_
    exact Or.inl ⟨by omega, rfl, rfl⟩
theorem mm_zone (σ : sw_S) (hσ : sw_gs σ) (hz : 0 ≤ σ 26 3 ∧ σ 26 3 ≤ 6) (a b w : Int) (ga : sw_g a) (gb : sw_g b) (gw : sw_g w) : sw_Con sw_ly sw_rho M_X8_zone [.inr (.inr 26), .inl a, .inl b, .inl w] σ (fun r σ' => (¬ ((0 ≤ a ∧ a ≤ σ 26 0) ∧ (0 ≤ b ∧ b ≤ σ 26 0) ∧ a ≤ b ∧ (1 ≤ w ∧ w ≤ 20)) ∧ r = some (.inl (-2)) ∧ σ = σ') ∨ ((((0 ≤ a ∧ a ≤ σ 26 0) ∧ (0 ≤ b ∧ b ≤ σ 26 0) ∧ a ≤ b ∧ (1 ≤ w ∧ w ≤ 20)) ∧ 6 ≤ σ 26 3) ∧ r = some (.inl (-3)) ∧ σ = σ') ∨ ((((0 ≤ a ∧ a ≤ σ 26 0) ∧ (0 ≤ b ∧ b ≤ σ 26 0) ∧ a ≤ b ∧ (1 ≤ w ∧ w ≤ 20)) ∧ σ 26 3 < 6 ∧ ¬ σ 26 12 = 0) ∧ r = some (.inl (-4)) ∧ σ = σ') ∨ ((((0 ≤ a ∧ a ≤ σ 26 0) ∧ (0 ≤ b ∧ b ≤ σ 26 0) ∧ a ≤ b ∧ (1 ≤ w ∧ w ≤ 20)) ∧ σ 26 3 < 6 ∧ σ 26 12 = 0) ∧ r = some (.inl (σ 26 3 + 1)) ∧ (sw_u (sw_u (sw_u (sw_u σ 27 (σ 26 3).toNat a) 28 (σ 26 3).toNat b) 29 (σ 26 3).toNat w) 26 3 (σ 26 3 + 1)) = σ')) := by
  refine sw_con (by decide) (Nat.le_of_ble_eq_true rfl) ?_
  refine sw_blk k_X8_zone 2 2 [(0, .inr (.inr 26)), (1, .inl a), (2, .inl b), (3, .inl w)] [.inl a, .inr (.inr 26)] σ rfl ?_
  refine sw_callV k_X8_zone rfl cV_X8_isPlace ml_X8_103 ⟨by decide, by decide⟩ 26 rfl rfl [.inl a] [] rfl rfl (Nat.le_of_ble_eq_true rfl) 5 rfl (sp_mPlace σ a (by omega) (hσ 26 0)) (fun r2 σ3 hq4 => ?_)
  obtain ⟨rfl, ⟨p1, rfl⟩ | ⟨p1, rfl⟩⟩ := hq4
  · have p1 : 0 ≤ a ∧ a ≤ (σ 26 0) := p1
    refine sw_blk k_X8_zone 0 5 [(0, .inr (.inr 26)), (1, .inl a), (2, .inl b), (3, .inl w)] [.inl 1] σ rfl ?_
    refine sw_if_eq k_X8_zone rfl (by decide) 31 8 (by decide) rfl (fun c => absurd c (by decide)) (fun _ => ?_)
    refine sw_blk k_X8_zone 2 10 [(0, .inr (.inr 26)), (1, .inl a), (2, .inl b), (3, .inl w)] [.inl b, .inr (.inr 26)] σ rfl ?_
    refine sw_callV k_X8_zone rfl cV_X8_isPlace ml_X8_103 ⟨by decide, by decide⟩ 26 rfl rfl [.inl b] [] rfl rfl (Nat.le_of_ble_eq_true rfl) 13 rfl (sp_mPlace σ b (by omega) (hσ 26 0)) (fun r6 σ7 hq8 => ?_)
    obtain ⟨rfl, ⟨p5, rfl⟩ | ⟨p5, rfl⟩⟩ := hq8
    · have p5 : 0 ≤ b ∧ b ≤ (σ 26 0) := p5
      refine sw_blk k_X8_zone 0 13 [(0, .inr (.inr 26)), (1, .inl a), (2, .inl b), (3, .inl w)] [.inl 1] σ rfl ?_
      refine sw_if_eq k_X8_zone rfl (by decide) 31 16 (by decide) rfl (fun c => absurd c (by decide)) (fun _ => ?_)
      refine sw_blk k_X8_zone 2 18 [(0, .inr (.inr 26)), (1, .inl a), (2, .inl b), (3, .inl w)] [.inl b, .inl a] σ rfl ?_
      refine sw_icmp_gt k_X8_zone rfl (by omega) (by omega) 31 21 (by decide) rfl (fun c9 => ?_) (fun c9 => ?_)
      · refine sw_blk k_X8_zone 1 33 [(0, .inr (.inr 26)), (1, .inl a), (2, .inl b), (3, .inl w)] [.inl (-2)] σ rfl ?_
        refine sw_ireturn k_X8_zone rfl rfl ?_
        exact Or.inl ⟨by omega, rfl, rfl⟩
      · refine sw_blk k_X8_zone 3 25 [(0, .inr (.inr 26)), (1, .inl a), (2, .inl b), (3, .inl w)] [.inl 20, .inl 1, .inl w] σ rfl ?_
        refine sw_callS k_X8_zone rfl cS_X8_in ml_X8_87 ⟨by decide, by decide⟩ [.inl w, .inl 1, .inl 20] [] rfl rfl (Nat.le_of_ble_eq_true rfl) 28 rfl (sp_in σ w 1 20 (by omega) (by decide) (by decide)) (fun r11 σ12 hq13 => ?_)
        obtain ⟨rfl, ⟨p10, rfl⟩ | ⟨p10, rfl⟩⟩ := hq13
        · refine sw_blk k_X8_zone 0 28 [(0, .inr (.inr 26)), (1, .inl a), (2, .inl b), (3, .inl w)] [.inl 1] σ rfl ?_
          refine sw_if_ne k_X8_zone rfl (by decide) 34 31 (by decide) rfl (fun _ => ?_) (fun c => absurd c (by decide))
          refine sw_blk k_X8_zone 3 40 [(0, .inr (.inr 26)), (1, .inl a), (2, .inl b), (3, .inl w)] [.inl 6, .inl (σ 26 3)] σ rfl ?_
          refine sw_icmp_ne k_X8_zone rfl (hσ 26 _) (by decide) 46 43 (by decide) rfl (fun c14 => ?_) (fun c14 => ?_)
          · refine sw_blk k_X8_zone 2 50 [(0, .inr (.inr 26)), (1, .inl a), (2, .inl b), (3, .inl w)] [.inl (σ 26 12)] σ rfl ?_
            refine sw_if_eq k_X8_zone rfl (hσ 26 _) 56 53 (by decide) rfl (fun c15 => ?_) (fun c15 => ?_)
            · refine sw_blk k_X8_zone 5 65 [(0, .inr (.inr 26)), (1, .inl a), (2, .inl b), (3, .inl w)] [.inl a, .inl (σ 26 3), .inr (.inr 27)] σ rfl ?_
              refine sw_iast k_X8_zone rfl (i := 27) (n := 6) rfl (by decide) (by omega) (by omega) 66 rfl ?_
              refine sw_blk k_X8_zone 5 75 [(0, .inr (.inr 26)), (1, .inl a), (2, .inl b), (3, .inl w)] [.inl b, .inl (σ 26 3), .inr (.inr 28)] (sw_u σ 27 ((σ 26 3).toNat) a) rfl ?_
              refine sw_iast k_X8_zone rfl (i := 28) (n := 6) rfl (by decide) (by omega) (by omega) 76 rfl ?_
              refine sw_blk k_X8_zone 5 85 [(0, .inr (.inr 26)), (1, .inl a), (2, .inl b), (3, .inl w)] [.inl w, .inl (σ 26 3), .inr (.inr 29)] (sw_u (sw_u σ 27 ((σ 26 3).toNat) a) 28 ((σ 26 3).toNat) b) rfl ?_
              refine sw_iast k_X8_zone rfl (i := 29) (n := 6) rfl (by decide) (by omega) (by omega) 86 rfl ?_
              refine sw_blk k_X8_zone 8 100 [(0, .inr (.inr 26)), (1, .inl a), (2, .inl b), (3, .inl w)] [.inl ((σ 26 3) + 1)] (sw_u (sw_u (sw_u (sw_u σ 27 ((σ 26 3).toNat) a) 28 ((σ 26 3).toNat) b) 29 ((σ 26 3).toNat) w) 26 3 ((σ 26 3) + 1)) rfl ?_
              refine sw_ireturn k_X8_zone rfl rfl ?_
              exact Or.inr (Or.inr (Or.inr (⟨by omega, rfl, rfl⟩)))
            · refine sw_blk k_X8_zone 1 55 [(0, .inr (.inr 26)), (1, .inl a), (2, .inl b), (3, .inl w)] [.inl (-4)] σ rfl ?_
              refine sw_ireturn k_X8_zone rfl rfl ?_
              exact Or.inr (Or.inr (Or.inl ⟨by omega, rfl, rfl⟩))
          · refine sw_blk k_X8_zone 1 45 [(0, .inr (.inr 26)), (1, .inl a), (2, .inl b), (3, .inl w)] [.inl (-3)] σ rfl ?_
            refine sw_ireturn k_X8_zone rfl rfl ?_
            exact Or.inr (Or.inl ⟨by omega, rfl, rfl⟩)
        · refine sw_blk k_X8_zone 0 28 [(0, .inr (.inr 26)), (1, .inl a), (2, .inl b), (3, .inl w)] [.inl 0] σ rfl ?_
          refine sw_if_ne k_X8_zone rfl (by decide) 34 31 (by decide) rfl (fun c => absurd (by decide) c) (fun _ => ?_)
          refine sw_blk k_X8_zone 1 33 [(0, .inr (.inr 26)), (1, .inl a), (2, .inl b), (3, .inl w)] [.inl (-2)] σ rfl ?_
          refine sw_ireturn k_X8_zone rfl rfl ?_
          exact Or.inl ⟨by omega, rfl, rfl⟩
    · have p5 : ¬ (0 ≤ b ∧ b ≤ (σ 26 0)) := p5
      refine sw_blk k_X8_zone 0 13 [(0, .inr (.inr 26)), (1, .inl a), (2, .inl b), (3, .inl w)] [.inl 0] σ rfl ?_
      refine sw_if_eq k_X8_zone rfl (by decide) 31 16 (by decide) rfl (fun _ => ?_) (fun c => absurd (by decide) c)
      refine sw_blk k_X8_zone 1 33 [(0, .inr (.inr 26)), (1, .inl a), (2, .inl b), (3, .inl w)] [.inl (-2)] σ rfl ?_
      refine sw_ireturn k_X8_zone rfl rfl ?_
      exact Or.inl ⟨by omega, rfl, rfl⟩
  · have p1 : ¬ (0 ≤ a ∧ a ≤ (σ 26 0)) := p1
    refine sw_blk k_X8_zone 0 5 [(0, .inr (.inr 26)), (1, .inl a), (2, .inl b), (3, .inl w)] [.inl 0] σ rfl ?_
    refine sw_if_eq k_X8_zone rfl (by decide) 31 8 (by decide) rfl (fun _ => ?_) (fun c => absurd (by decide) c)
    refine sw_blk k_X8_zone 1 33 [(0, .inr (.inr 26)), (1, .inl a), (2, .inl b), (3, .inl w)] [.inl (-2)] σ rfl ?_
    refine sw_ireturn k_X8_zone rfl rfl ?_
    exact Or.inl ⟨by omega, rfl, rfl⟩
theorem mm_stop (σ : sw_S) (hσ : sw_gs σ) (p c : Int) (gp : sw_g p) (gc : sw_g c) (hst : 0 ≤ σ 26 7 ∧ σ 26 7 ≤ 6) : sw_Con sw_ly sw_rho M_X8_stop [.inr (.inr 26), .inl p, .inl c] σ (fun r σ' => (¬ ((0 ≤ p ∧ p ≤ σ 26 0) ∧ (1 ≤ c ∧ c ≤ 9)) ∧ r = some (.inl (-2)) ∧ σ = σ') ∨ ((((0 ≤ p ∧ p ≤ σ 26 0) ∧ (1 ≤ c ∧ c ≤ 9)) ∧ 6 ≤ σ 26 7) ∧ r = some (.inl (-3)) ∧ σ = σ') ∨ ((((0 ≤ p ∧ p ≤ σ 26 0) ∧ (1 ≤ c ∧ c ≤ 9)) ∧ σ 26 7 < 6) ∧ r = some (.inl (σ 26 7 + 1 - 1)) ∧ (sw_u (sw_u (sw_u σ 30 (σ 26 7).toNat p) 31 (σ 26 7).toNat c) 26 7 (σ 26 7 + 1)) = σ')) := by
  refine sw_con (by decide) (Nat.le_of_ble_eq_true rfl) ?_
  refine sw_blk k_X8_stop 2 2 [(0, .inr (.inr 26)), (1, .inl p), (2, .inl c)] [.inl p, .inr (.inr 26)] σ rfl ?_
  refine sw_callV k_X8_stop rfl cV_X8_isPlace ml_X8_103 ⟨by decide, by decide⟩ 26 rfl rfl [.inl p] [] rfl rfl (Nat.le_of_ble_eq_true rfl) 5 rfl (sp_mPlace σ p (by omega) (hσ 26 0)) (fun r2 σ3 hq4 => ?_)
  obtain ⟨rfl, ⟨p1, rfl⟩ | ⟨p1, rfl⟩⟩ := hq4
  · have p1 : 0 ≤ p ∧ p ≤ (σ 26 0) := p1
    refine sw_blk k_X8_stop 0 5 [(0, .inr (.inr 26)), (1, .inl p), (2, .inl c)] [.inl 1] σ rfl ?_
    refine sw_if_eq k_X8_stop rfl (by decide) 18 8 (by decide) rfl (fun c => absurd c (by decide)) (fun _ => ?_)
    refine sw_blk k_X8_stop 3 12 [(0, .inr (.inr 26)), (1, .inl p), (2, .inl c)] [.inl 9, .inl 1, .inl c] σ rfl ?_
    refine sw_callS k_X8_stop rfl cS_X8_in ml_X8_87 ⟨by decide, by decide⟩ [.inl c, .inl 1, .inl 9] [] rfl rfl (Nat.le_of_ble_eq_true rfl) 15 rfl (sp_in σ c 1 9 (by omega) (by decide) (by decide)) (fun r6 σ7 hq8 => ?_)
    obtain ⟨rfl, ⟨p5, rfl⟩ | ⟨p5, rfl⟩⟩ := hq8
    · refine sw_blk k_X8_stop 0 15 [(0, .inr (.inr 26)), (1, .inl p), (2, .inl c)] [.inl 1] σ rfl ?_
      refine sw_if_ne k_X8_stop rfl (by decide) 21 18 (by decide) rfl (fun _ => ?_) (fun c => absurd c (by decide))
      refine sw_blk k_X8_stop 3 27 [(0, .inr (.inr 26)), (1, .inl p), (2, .inl c)] [.inl 6, .inl (σ 26 7)] σ rfl ?_
      refine sw_icmp_ne k_X8_stop rfl (hσ 26 _) (by decide) 33 30 (by decide) rfl (fun c9 => ?_) (fun c9 => ?_)
      · refine sw_blk k_X8_stop 5 42 [(0, .inr (.inr 26)), (1, .inl p), (2, .inl c)] [.inl p, .inl (σ 26 7), .inr (.inr 30)] σ rfl ?_
        refine sw_iast k_X8_stop rfl (i := 30) (n := 6) rfl (by decide) (by omega) (by omega) 43 rfl ?_
        refine sw_blk k_X8_stop 5 52 [(0, .inr (.inr 26)), (1, .inl p), (2, .inl c)] [.inl c, .inl (σ 26 7), .inr (.inr 31)] (sw_u σ 30 ((σ 26 7).toNat) p) rfl ?_
        refine sw_iast k_X8_stop rfl (i := 31) (n := 6) rfl (by decide) (by omega) (by omega) 53 rfl ?_
        refine sw_blk k_X8_stop 10 69 [(0, .inr (.inr 26)), (1, .inl p), (2, .inl c)] [.inl (((σ 26 7) + 1) - 1)] (sw_u (sw_u (sw_u σ 30 ((σ 26 7).toNat) p) 31 ((σ 26 7).toNat) c) 26 7 ((σ 26 7) + 1)) rfl ?_
        refine sw_ireturn k_X8_stop rfl rfl ?_
        exact Or.inr (Or.inr (⟨by omega, rfl, rfl⟩))
      · refine sw_blk k_X8_stop 1 32 [(0, .inr (.inr 26)), (1, .inl p), (2, .inl c)] [.inl (-3)] σ rfl ?_
        refine sw_ireturn k_X8_stop rfl rfl ?_
        exact Or.inr (Or.inl ⟨by omega, rfl, rfl⟩)
    · refine sw_blk k_X8_stop 0 15 [(0, .inr (.inr 26)), (1, .inl p), (2, .inl c)] [.inl 0] σ rfl ?_
      refine sw_if_ne k_X8_stop rfl (by decide) 21 18 (by decide) rfl (fun c => absurd (by decide) c) (fun _ => ?_)
      refine sw_blk k_X8_stop 1 20 [(0, .inr (.inr 26)), (1, .inl p), (2, .inl c)] [.inl (-2)] σ rfl ?_
      refine sw_ireturn k_X8_stop rfl rfl ?_
      exact Or.inl ⟨by omega, rfl, rfl⟩
  · have p1 : ¬ (0 ≤ p ∧ p ≤ (σ 26 0)) := p1
    refine sw_blk k_X8_stop 0 5 [(0, .inr (.inr 26)), (1, .inl p), (2, .inl c)] [.inl 0] σ rfl ?_
    refine sw_if_eq k_X8_stop rfl (by decide) 18 8 (by decide) rfl (fun _ => ?_) (fun c => absurd (by decide) c)
    refine sw_blk k_X8_stop 1 20 [(0, .inr (.inr 26)), (1, .inl p), (2, .inl c)] [.inl (-2)] σ rfl ?_
    refine sw_ireturn k_X8_stop rfl rfl ?_
    exact Or.inl ⟨by omega, rfl, rfl⟩
theorem mm_ring (σ : sw_S) (k : Int) (gk : sw_g k) : sw_Con sw_ly sw_rho M_X8_ring [.inr (.inr 26), .inl k] σ (fun r σ' => (¬ (1 ≤ k ∧ k ≤ 9) ∧ r = some (.inl (-2)) ∧ σ = σ') ∨ ((1 ≤ k ∧ k ≤ 9) ∧ r = some (.inl (1)) ∧ (sw_u σ 26 13 k) = σ')) := by
  refine sw_con (by decide) (Nat.le_of_ble_eq_true rfl) ?_
  refine sw_blk k_X8_ring 3 4 [(0, .inr (.inr 26)), (1, .inl k)] [.inl 9, .inl 1, .inl k] σ rfl ?_
  refine sw_callS k_X8_ring rfl cS_X8_in ml_X8_87 ⟨by decide, by decide⟩ [.inl k, .inl 1, .inl 9] [] rfl rfl (Nat.le_of_ble_eq_true rfl) 7 rfl (sp_in σ k 1 9 (by omega) (by decide) (by decide)) (fun r2 σ3 hq4 => ?_)
  obtain ⟨rfl, ⟨p1, rfl⟩ | ⟨p1, rfl⟩⟩ := hq4
  · refine sw_blk k_X8_ring 0 7 [(0, .inr (.inr 26)), (1, .inl k)] [.inl 1] σ rfl ?_
    refine sw_if_ne k_X8_ring rfl (by decide) 13 10 (by decide) rfl (fun _ => ?_) (fun c => absurd c (by decide))
    refine sw_blk k_X8_ring 4 19 [(0, .inr (.inr 26)), (1, .inl k)] [.inl 1] (sw_u σ 26 13 k) rfl ?_
    refine sw_ireturn k_X8_ring rfl rfl ?_
    exact Or.inr (⟨by omega, rfl, rfl⟩)
  · refine sw_blk k_X8_ring 0 7 [(0, .inr (.inr 26)), (1, .inl k)] [.inl 0] σ rfl ?_
    refine sw_if_ne k_X8_ring rfl (by decide) 13 10 (by decide) rfl (fun c => absurd (by decide) c) (fun _ => ?_)
    refine sw_blk k_X8_ring 1 12 [(0, .inr (.inr 26)), (1, .inl k)] [.inl (-2)] σ rfl ?_
    refine sw_ireturn k_X8_ring rfl rfl ?_
    exact Or.inl ⟨by omega, rfl, rfl⟩
theorem mm_link (σ : sw_S) (l c : Int) (gl : sw_g l) (gc : sw_g c) : sw_Con sw_ly sw_rho M_X8_link [.inr (.inr 26), .inl l, .inl c] σ (fun r σ' => (¬ ((0 ≤ l ∧ l ≤ 7)) ∧ r = some (.inl (-2)) ∧ σ = σ') ∨ ((((0 ≤ l ∧ l ≤ 7)) ∧ c = 0) ∧ r = some (.inl (1)) ∧ (sw_u σ 32 l.toNat 1) = σ') ∨ ((((0 ≤ l ∧ l ≤ 7)) ∧ ¬ c = 0) ∧ r = some (.inl (1)) ∧ (sw_u σ 32 l.toNat 0) = σ')) := by
  refine sw_con (by decide) (Nat.le_of_ble_eq_true rfl) ?_
  refine sw_blk k_X8_link 3 4 [(0, .inr (.inr 26)), (1, .inl l), (2, .inl c)] [.inl 7, .inl 0, .inl l] σ rfl ?_
  refine sw_callS k_X8_link rfl cS_X8_in ml_X8_87 ⟨by decide, by decide⟩ [.inl l, .inl 0, .inl 7] [] rfl rfl (Nat.le_of_ble_eq_true rfl) 7 rfl (sp_in σ l 0 7 (by omega) (by decide) (by decide)) (fun r2 σ3 hq4 => ?_)
  obtain ⟨rfl, ⟨p1, rfl⟩ | ⟨p1, rfl⟩⟩ := hq4
  · refine sw_blk k_X8_link 0 7 [(0, .inr (.inr 26)), (1, .inl l), (2, .inl c)] [.inl 1] σ rfl ?_
    refine sw_if_ne k_X8_link rfl (by decide) 13 10 (by decide) rfl (fun _ => ?_) (fun c => absurd c (by decide))
    refine sw_blk k_X8_link 4 19 [(0, .inr (.inr 26)), (1, .inl l), (2, .inl c)] [.inl c, .inl l, .inr (.inr 32)] σ rfl ?_
    refine sw_if_ne k_X8_link rfl (by omega) 26 22 (by decide) rfl (fun c5 => ?_) (fun c5 => ?_)
    · refine sw_blk k_X8_link 1 27 [(0, .inr (.inr 26)), (1, .inl l), (2, .inl c)] [.inl 0, .inl l, .inr (.inr 32)] σ rfl ?_
      refine sw_zast k_X8_link rfl (i := 32) (n := 8) rfl (by decide) (by omega) (by omega) (by decide) 28 rfl ?_
      refine sw_blk k_X8_link 1 29 [(0, .inr (.inr 26)), (1, .inl l), (2, .inl c)] [.inl 1] (sw_u σ 32 l.toNat 0) rfl ?_
      refine sw_ireturn k_X8_link rfl rfl ?_
      exact Or.inr (Or.inr (⟨by omega, rfl, rfl⟩))
    · refine sw_blk k_X8_link 2 27 [(0, .inr (.inr 26)), (1, .inl l), (2, .inl c)] [.inl 1, .inl l, .inr (.inr 32)] σ rfl ?_
      refine sw_zast k_X8_link rfl (i := 32) (n := 8) rfl (by decide) (by omega) (by omega) (by decide) 28 rfl ?_
      refine sw_blk k_X8_link 1 29 [(0, .inr (.inr 26)), (1, .inl l), (2, .inl c)] [.inl 1] (sw_u σ 32 l.toNat 1) rfl ?_
      refine sw_ireturn k_X8_link rfl rfl ?_
      exact Or.inr (Or.inl ⟨by omega, rfl, rfl⟩)
  · refine sw_blk k_X8_link 0 7 [(0, .inr (.inr 26)), (1, .inl l), (2, .inl c)] [.inl 0] σ rfl ?_
    refine sw_if_ne k_X8_link rfl (by decide) 13 10 (by decide) rfl (fun c => absurd (by decide) c) (fun _ => ?_)
    refine sw_blk k_X8_link 1 12 [(0, .inr (.inr 26)), (1, .inl l), (2, .inl c)] [.inl (-2)] σ rfl ?_
    refine sw_ireturn k_X8_link rfl rfl ?_
    exact Or.inl ⟨by omega, rfl, rfl⟩
theorem mm_error (σ : sw_S) (s e : Int) (gs : sw_g s) (ge : sw_g e) : sw_Con sw_ly sw_rho M_X8_error [.inr (.inr 26), .inl s, .inl e] σ (fun r σ' => (¬ ((0 ≤ s ∧ s ≤ 2) ∧ (-1000 ≤ e ∧ e ≤ 1000)) ∧ r = some (.inl (-2)) ∧ σ = σ') ∨ (((0 ≤ s ∧ s ≤ 2) ∧ (-1000 ≤ e ∧ e ≤ 1000)) ∧ r = some (.inl (1)) ∧ (sw_u σ 33 s.toNat e) = σ')) := by
  refine sw_con (by decide) (Nat.le_of_ble_eq_true rfl) ?_
  refine sw_blk k_X8_error 3 3 [(0, .inr (.inr 26)), (1, .inl s), (2, .inl e)] [.inl 2, .inl 0, .inl s] σ rfl ?_
  refine sw_callS k_X8_error rfl cS_X8_in ml_X8_87 ⟨by decide, by decide⟩ [.inl s, .inl 0, .inl 2] [] rfl rfl (Nat.le_of_ble_eq_true rfl) 6 rfl (sp_in σ s 0 2 (by omega) (by decide) (by decide)) (fun r2 σ3 hq4 => ?_)
  obtain ⟨rfl, ⟨p1, rfl⟩ | ⟨p1, rfl⟩⟩ := hq4
  · refine sw_blk k_X8_error 0 6 [(0, .inr (.inr 26)), (1, .inl s), (2, .inl e)] [.inl 1] σ rfl ?_
    refine sw_if_eq k_X8_error rfl (by decide) 22 9 (by decide) rfl (fun c => absurd c (by decide)) (fun _ => ?_)
    refine sw_blk k_X8_error 3 16 [(0, .inr (.inr 26)), (1, .inl s), (2, .inl e)] [.inl 1000, .inl (-1000), .inl e] σ rfl ?_
    refine sw_callS k_X8_error rfl cS_X8_in ml_X8_87 ⟨by decide, by decide⟩ [.inl e, .inl (-1000), .inl 1000] [] rfl rfl (Nat.le_of_ble_eq_true rfl) 19 rfl (sp_in σ e (-1000) 1000 (by omega) (by decide) (by decide)) (fun r6 σ7 hq8 => ?_)
    obtain ⟨rfl, ⟨p5, rfl⟩ | ⟨p5, rfl⟩⟩ := hq8
    · refine sw_blk k_X8_error 0 19 [(0, .inr (.inr 26)), (1, .inl s), (2, .inl e)] [.inl 1] σ rfl ?_
      refine sw_if_ne k_X8_error rfl (by decide) 25 22 (by decide) rfl (fun _ => ?_) (fun c => absurd c (by decide))
      refine sw_blk k_X8_error 4 31 [(0, .inr (.inr 26)), (1, .inl s), (2, .inl e)] [.inl e, .inl s, .inr (.inr 33)] σ rfl ?_
      refine sw_iast k_X8_error rfl (i := 33) (n := 3) rfl (by decide) (by omega) (by omega) 32 rfl ?_
      refine sw_blk k_X8_error 1 33 [(0, .inr (.inr 26)), (1, .inl s), (2, .inl e)] [.inl 1] (sw_u σ 33 s.toNat e) rfl ?_
      refine sw_ireturn k_X8_error rfl rfl ?_
      exact Or.inr (⟨by omega, rfl, rfl⟩)
    · refine sw_blk k_X8_error 0 19 [(0, .inr (.inr 26)), (1, .inl s), (2, .inl e)] [.inl 0] σ rfl ?_
      refine sw_if_ne k_X8_error rfl (by decide) 25 22 (by decide) rfl (fun c => absurd (by decide) c) (fun _ => ?_)
      refine sw_blk k_X8_error 1 24 [(0, .inr (.inr 26)), (1, .inl s), (2, .inl e)] [.inl (-2)] σ rfl ?_
      refine sw_ireturn k_X8_error rfl rfl ?_
      exact Or.inl ⟨by omega, rfl, rfl⟩
  · refine sw_blk k_X8_error 0 6 [(0, .inr (.inr 26)), (1, .inl s), (2, .inl e)] [.inl 0] σ rfl ?_
    refine sw_if_eq k_X8_error rfl (by decide) 22 9 (by decide) rfl (fun _ => ?_) (fun c => absurd (by decide) c)
    refine sw_blk k_X8_error 1 24 [(0, .inr (.inr 26)), (1, .inl s), (2, .inl e)] [.inl (-2)] σ rfl ?_
    refine sw_ireturn k_X8_error rfl rfl ?_
    exact Or.inl ⟨by omega, rfl, rfl⟩
theorem mm_guard (σ : sw_S) (m b : Int) (gm : sw_g m) (gb : sw_g b) : sw_Con sw_ly sw_rho M_X8_guard [.inr (.inr 26), .inl m, .inl b] σ (fun r σ' => (¬ ((0 ≤ m ∧ m ≤ 20) ∧ (1 ≤ b ∧ b ≤ 10)) ∧ r = some (.inl (-2)) ∧ σ = σ') ∨ (((0 ≤ m ∧ m ≤ 20) ∧ (1 ≤ b ∧ b ≤ 10)) ∧ r = some (.inl (1)) ∧ (sw_u (sw_u σ 26 16 m) 26 17 b) = σ')) := by
  refine sw_con (by decide) (Nat.le_of_ble_eq_true rfl) ?_
  refine sw_blk k_X8_guard 3 4 [(0, .inr (.inr 26)), (1, .inl m), (2, .inl b)] [.inl 20, .inl 0, .inl m] σ rfl ?_
  refine sw_callS k_X8_guard rfl cS_X8_in ml_X8_87 ⟨by decide, by decide⟩ [.inl m, .inl 0, .inl 20] [] rfl rfl (Nat.le_of_ble_eq_true rfl) 7 rfl (sp_in σ m 0 20 (by omega) (by decide) (by decide)) (fun r2 σ3 hq4 => ?_)
  obtain ⟨rfl, ⟨p1, rfl⟩ | ⟨p1, rfl⟩⟩ := hq4
  · refine sw_blk k_X8_guard 0 7 [(0, .inr (.inr 26)), (1, .inl m), (2, .inl b)] [.inl 1] σ rfl ?_
    refine sw_if_eq k_X8_guard rfl (by decide) 20 10 (by decide) rfl (fun c => absurd c (by decide)) (fun _ => ?_)
    refine sw_blk k_X8_guard 3 14 [(0, .inr (.inr 26)), (1, .inl m), (2, .inl b)] [.inl 10, .inl 1, .inl b] σ rfl ?_
    refine sw_callS k_X8_guard rfl cS_X8_in ml_X8_87 ⟨by decide, by decide⟩ [.inl b, .inl 1, .inl 10] [] rfl rfl (Nat.le_of_ble_eq_true rfl) 17 rfl (sp_in σ b 1 10 (by omega) (by decide) (by decide)) (fun r6 σ7 hq8 => ?_)
    obtain ⟨rfl, ⟨p5, rfl⟩ | ⟨p5, rfl⟩⟩ := hq8
    · refine sw_blk k_X8_guard 0 17 [(0, .inr (.inr 26)), (1, .inl m), (2, .inl b)] [.inl 1] σ rfl ?_
      refine sw_if_ne k_X8_guard rfl (by decide) 23 20 (by decide) rfl (fun _ => ?_) (fun c => absurd c (by decide))
      refine sw_blk k_X8_guard 7 34 [(0, .inr (.inr 26)), (1, .inl m), (2, .inl b)] [.inl 1] (sw_u (sw_u σ 26 16 m) 26 17 b) rfl ?_
      refine sw_ireturn k_X8_guard rfl rfl ?_
      exact Or.inr (⟨by omega, rfl, rfl⟩)
    · refine sw_blk k_X8_guard 0 17 [(0, .inr (.inr 26)), (1, .inl m), (2, .inl b)] [.inl 0] σ rfl ?_
      refine sw_if_ne k_X8_guard rfl (by decide) 23 20 (by decide) rfl (fun c => absurd (by decide) c) (fun _ => ?_)
      refine sw_blk k_X8_guard 1 22 [(0, .inr (.inr 26)), (1, .inl m), (2, .inl b)] [.inl (-2)] σ rfl ?_
      refine sw_ireturn k_X8_guard rfl rfl ?_
      exact Or.inl ⟨by omega, rfl, rfl⟩
  · refine sw_blk k_X8_guard 0 7 [(0, .inr (.inr 26)), (1, .inl m), (2, .inl b)] [.inl 0] σ rfl ?_
    refine sw_if_eq k_X8_guard rfl (by decide) 20 10 (by decide) rfl (fun _ => ?_) (fun c => absurd (by decide) c)
    refine sw_blk k_X8_guard 1 22 [(0, .inr (.inr 26)), (1, .inl m), (2, .inl b)] [.inl (-2)] σ rfl ?_
    refine sw_ireturn k_X8_guard rfl rfl ?_
    exact Or.inl ⟨by omega, rfl, rfl⟩
theorem mm_loads (σ : sw_S) (a b w : Int) (ga : sw_g a) (gb : sw_g b) (gw : sw_g w) : sw_Con sw_ly sw_rho M_X8_loads [.inr (.inr 26), .inl a, .inl b, .inl w] σ (fun r σ' => (¬ ((0 ≤ a ∧ a ≤ 1000) ∧ (0 ≤ b ∧ b ≤ 1000) ∧ (0 ≤ w ∧ w ≤ 10)) ∧ r = some (.inl (-2)) ∧ σ = σ') ∨ (((0 ≤ a ∧ a ≤ 1000) ∧ (0 ≤ b ∧ b ≤ 1000) ∧ (0 ≤ w ∧ w ≤ 10)) ∧ r = some (.inl (1)) ∧ (sw_u (sw_u (sw_u σ 26 29 a) 26 30 b) 26 31 w) = σ')) := by
  refine sw_con (by decide) (Nat.le_of_ble_eq_true rfl) ?_
  refine sw_blk k_X8_loads 3 5 [(0, .inr (.inr 26)), (1, .inl a), (2, .inl b), (3, .inl w)] [.inl 1000, .inl 0, .inl a] σ rfl ?_
  refine sw_callS k_X8_loads rfl cS_X8_in ml_X8_87 ⟨by decide, by decide⟩ [.inl a, .inl 0, .inl 1000] [] rfl rfl (Nat.le_of_ble_eq_true rfl) 8 rfl (sp_in σ a 0 1000 (by omega) (by decide) (by decide)) (fun r2 σ3 hq4 => ?_)
  obtain ⟨rfl, ⟨p1, rfl⟩ | ⟨p1, rfl⟩⟩ := hq4
  · refine sw_blk k_X8_loads 0 8 [(0, .inr (.inr 26)), (1, .inl a), (2, .inl b), (3, .inl w)] [.inl 1] σ rfl ?_
    refine sw_if_eq k_X8_loads rfl (by decide) 32 11 (by decide) rfl (fun c => absurd c (by decide)) (fun _ => ?_)
    refine sw_blk k_X8_loads 3 16 [(0, .inr (.inr 26)), (1, .inl a), (2, .inl b), (3, .inl w)] [.inl 1000, .inl 0, .inl b] σ rfl ?_
    refine sw_callS k_X8_loads rfl cS_X8_in ml_X8_87 ⟨by decide, by decide⟩ [.inl b, .inl 0, .inl 1000] [] rfl rfl (Nat.le_of_ble_eq_true rfl) 19 rfl (sp_in σ b 0 1000 (by omega) (by decide) (by decide)) (fun r6 σ7 hq8 => ?_)
    obtain ⟨rfl, ⟨p5, rfl⟩ | ⟨p5, rfl⟩⟩ := hq8
    · refine sw_blk k_X8_loads 0 19 [(0, .inr (.inr 26)), (1, .inl a), (2, .inl b), (3, .inl w)] [.inl 1] σ rfl ?_
      refine sw_if_eq k_X8_loads rfl (by decide) 32 22 (by decide) rfl (fun c => absurd c (by decide)) (fun _ => ?_)
      refine sw_blk k_X8_loads 3 26 [(0, .inr (.inr 26)), (1, .inl a), (2, .inl b), (3, .inl w)] [.inl 10, .inl 0, .inl w] σ rfl ?_
      refine sw_callS k_X8_loads rfl cS_X8_in ml_X8_87 ⟨by decide, by decide⟩ [.inl w, .inl 0, .inl 10] [] rfl rfl (Nat.le_of_ble_eq_true rfl) 29 rfl (sp_in σ w 0 10 (by omega) (by decide) (by decide)) (fun r10 σ11 hq12 => ?_)
      obtain ⟨rfl, ⟨p9, rfl⟩ | ⟨p9, rfl⟩⟩ := hq12
      · refine sw_blk k_X8_loads 0 29 [(0, .inr (.inr 26)), (1, .inl a), (2, .inl b), (3, .inl w)] [.inl 1] σ rfl ?_
        refine sw_if_ne k_X8_loads rfl (by decide) 35 32 (by decide) rfl (fun _ => ?_) (fun c => absurd c (by decide))
        refine sw_blk k_X8_loads 10 51 [(0, .inr (.inr 26)), (1, .inl a), (2, .inl b), (3, .inl w)] [.inl 1] (sw_u (sw_u (sw_u σ 26 29 a) 26 30 b) 26 31 w) rfl ?_
        refine sw_ireturn k_X8_loads rfl rfl ?_
        exact Or.inr (⟨by omega, rfl, rfl⟩)
      · refine sw_blk k_X8_loads 0 29 [(0, .inr (.inr 26)), (1, .inl a), (2, .inl b), (3, .inl w)] [.inl 0] σ rfl ?_
        refine sw_if_ne k_X8_loads rfl (by decide) 35 32 (by decide) rfl (fun c => absurd (by decide) c) (fun _ => ?_)
        refine sw_blk k_X8_loads 1 34 [(0, .inr (.inr 26)), (1, .inl a), (2, .inl b), (3, .inl w)] [.inl (-2)] σ rfl ?_
        refine sw_ireturn k_X8_loads rfl rfl ?_
        exact Or.inl ⟨by omega, rfl, rfl⟩
    · refine sw_blk k_X8_loads 0 19 [(0, .inr (.inr 26)), (1, .inl a), (2, .inl b), (3, .inl w)] [.inl 0] σ rfl ?_
      refine sw_if_eq k_X8_loads rfl (by decide) 32 22 (by decide) rfl (fun _ => ?_) (fun c => absurd (by decide) c)
      refine sw_blk k_X8_loads 1 34 [(0, .inr (.inr 26)), (1, .inl a), (2, .inl b), (3, .inl w)] [.inl (-2)] σ rfl ?_
      refine sw_ireturn k_X8_loads rfl rfl ?_
      exact Or.inl ⟨by omega, rfl, rfl⟩
  · refine sw_blk k_X8_loads 0 8 [(0, .inr (.inr 26)), (1, .inl a), (2, .inl b), (3, .inl w)] [.inl 0] σ rfl ?_
    refine sw_if_eq k_X8_loads rfl (by decide) 32 11 (by decide) rfl (fun _ => ?_) (fun c => absurd (by decide) c)
    refine sw_blk k_X8_loads 1 34 [(0, .inr (.inr 26)), (1, .inl a), (2, .inl b), (3, .inl w)] [.inl (-2)] σ rfl ?_
    refine sw_ireturn k_X8_loads rfl rfl ?_
    exact Or.inl ⟨by omega, rfl, rfl⟩
theorem mm_ratio (σ : sw_S) (h : Int) (gh : sw_g h) : sw_Con sw_ly sw_rho M_X8_ratio [.inr (.inr 26), .inl h] σ (fun r σ' => (¬ (100 ≤ h ∧ h ≤ 400) ∧ r = some (.inl (-2)) ∧ σ = σ') ∨ ((100 ≤ h ∧ h ≤ 400) ∧ r = some (.inl (σ 26 32)) ∧ (sw_u σ 26 32 h) = σ')) := by
  refine sw_con (by decide) (Nat.le_of_ble_eq_true rfl) ?_
  refine sw_blk k_X8_ratio 3 6 [(0, .inr (.inr 26)), (1, .inl h)] [.inl 400, .inl 100, .inl h] σ rfl ?_
  refine sw_callS k_X8_ratio rfl cS_X8_in ml_X8_87 ⟨by decide, by decide⟩ [.inl h, .inl 100, .inl 400] [] rfl rfl (Nat.le_of_ble_eq_true rfl) 9 rfl (sp_in σ h 100 400 (by omega) (by decide) (by decide)) (fun r2 σ3 hq4 => ?_)
  obtain ⟨rfl, ⟨p1, rfl⟩ | ⟨p1, rfl⟩⟩ := hq4
  · refine sw_blk k_X8_ratio 0 9 [(0, .inr (.inr 26)), (1, .inl h)] [.inl 1] σ rfl ?_
    refine sw_if_ne k_X8_ratio rfl (by decide) 15 12 (by decide) rfl (fun _ => ?_) (fun c => absurd c (by decide))
    refine sw_blk k_X8_ratio 7 26 [(2, .inl (σ 26 32)), (0, .inr (.inr 26)), (1, .inl h)] [.inl (σ 26 32)] (sw_u σ 26 32 h) rfl ?_
    refine sw_ireturn k_X8_ratio rfl rfl ?_
    exact Or.inr (⟨by omega, rfl, rfl⟩)
  · refine sw_blk k_X8_ratio 0 9 [(0, .inr (.inr 26)), (1, .inl h)] [.inl 0] σ rfl ?_
    refine sw_if_ne k_X8_ratio rfl (by decide) 15 12 (by decide) rfl (fun c => absurd (by decide) c) (fun _ => ?_)
    refine sw_blk k_X8_ratio 1 14 [(0, .inr (.inr 26)), (1, .inl h)] [.inl (-2)] σ rfl ?_
    refine sw_ireturn k_X8_ratio rfl rfl ?_
    exact Or.inl ⟨by omega, rfl, rfl⟩
theorem sp_mSlips (σ : sw_S) (hl0 : 0 ≤ σ 26 29 ∧ σ 26 29 ≤ 1000) (hl1 : 0 ≤ σ 26 30 ∧ σ 26 30 ≤ 1000) (hwt : 0 ≤ σ 26 31 ∧ σ 26 31 ≤ 10) (hD : 10 ≤ σ 26 0 ∧ σ 26 0 ≤ 400) (p c k : Int) (hp : 0 ≤ p ∧ p ≤ σ 26 0) (hc : -9 ≤ c ∧ c ≤ 9) (hk : 100 ≤ k ∧ k ≤ 401) : sw_Con sw_ly sw_rho M_X8_isSlipping [.inr (.inr 26), .inl p, .inl c, .inl k] σ (fun r σ' => σ = σ' ∧ ((sw_slp (σ 26 29) (σ 26 30) (σ 26 31) (σ 26 0) p c k) ∧ r = some (.inl 1) ∨ ¬ (sw_slp (σ 26 29) (σ 26 30) (σ 26 31) (σ 26 0) p c k) ∧ r = some (.inl 0))) := by
  refine sw_con (by decide) (Nat.le_of_ble_eq_true rfl) ?_
  have b0 : 0 ≤ ((((σ 26 29) + ((σ 26 31) * p)) + 1) * (10 - c)) ∧ ((((σ 26 29) + ((σ 26 31) * p)) + 1) * (10 - c)) ≤ 95019 := sw_q0b hl0 hwt (p := p) (by omega) hc
  have b1 : 0 ≤ ((((σ 26 30) + ((σ 26 31) * ((σ 26 0) - p))) + 1) * (10 + c)) ∧ ((((σ 26 30) + ((σ 26 31) * ((σ 26 0) - p))) + 1) * (10 + c)) ≤ 95019 := sw_q1b (D := σ 26 0) (p := p) hl1 hwt (by omega) hc
  have b2 := sw_mulb (x := k) (X := 401) (y := ((((σ 26 29) + ((σ 26 31) * p)) + 1) * (10 - c))) (Y := 95019) (by omega) (by omega) (by omega) (by omega)
  have b3 := sw_mulb (x := k) (X := 401) (y := ((((σ 26 30) + ((σ 26 31) * ((σ 26 0) - p))) + 1) * (10 + c))) (Y := 95019) (by omega) (by omega) (by omega) (by omega)
  refine sw_blk k_X8_isSlipping 34 51 [(5, .inl ((((σ 26 30) + ((σ 26 31) * ((σ 26 0) - p))) + 1) * (10 + c))), (4, .inl ((((σ 26 29) + ((σ 26 31) * p)) + 1) * (10 - c))), (0, .inr (.inr 26)), (1, .inl p), (2, .inl c), (3, .inl k)] [.inl ((((σ 26 30) + ((σ 26 31) * ((σ 26 0) - p))) + 1) * (10 + c)), .inl ((((σ 26 29) + ((σ 26 31) * p)) + 1) * (10 - c)), .inl 100] σ rfl ?_
  refine sw_icmp_le k_X8_isSlipping rfl (by omega) (by omega) 59 54 (by decide) rfl (fun c1 => ?_) (fun c1 => ?_)
  · refine sw_blk k_X8_isSlipping 5 67 [(5, .inl ((((σ 26 30) + ((σ 26 31) * ((σ 26 0) - p))) + 1) * (10 + c))), (4, .inl ((((σ 26 29) + ((σ 26 31) * p)) + 1) * (10 - c))), (0, .inr (.inr 26)), (1, .inl p), (2, .inl c), (3, .inl k)] [.inl ((((σ 26 30) + ((σ 26 31) * ((σ 26 0) - p))) + 1) * (10 + c)), .inl ((((σ 26 29) + ((σ 26 31) * p)) + 1) * (10 - c)), .inl k, .inl (100 * ((((σ 26 30) + ((σ 26 31) * ((σ 26 0) - p))) + 1) * (10 + c)))] σ rfl ?_
    refine sw_icmp_le k_X8_isSlipping rfl (by omega) (by omega) 75 70 (by decide) rfl (fun c2 => ?_) (fun c2 => ?_)
    · refine sw_blk k_X8_isSlipping 2 78 [(5, .inl ((((σ 26 30) + ((σ 26 31) * ((σ 26 0) - p))) + 1) * (10 + c))), (4, .inl ((((σ 26 29) + ((σ 26 31) * p)) + 1) * (10 - c))), (0, .inr (.inr 26)), (1, .inl p), (2, .inl c), (3, .inl k)] [.inl (k * ((((σ 26 29) + ((σ 26 31) * p)) + 1) * (10 - c))), .inl (100 * ((((σ 26 30) + ((σ 26 31) * ((σ 26 0) - p))) + 1) * (10 + c)))] σ rfl ?_
      refine sw_icmp_le k_X8_isSlipping rfl (by omega) (by omega) 85 81 (by decide) rfl (fun c3 => ?_) (fun c3 => ?_)
      · refine sw_blk k_X8_isSlipping 1 86 [(5, .inl ((((σ 26 30) + ((σ 26 31) * ((σ 26 0) - p))) + 1) * (10 + c))), (4, .inl ((((σ 26 29) + ((σ 26 31) * p)) + 1) * (10 - c))), (0, .inr (.inr 26)), (1, .inl p), (2, .inl c), (3, .inl k)] [.inl 0] σ rfl ?_
        refine sw_zreturn k_X8_isSlipping rfl rfl (by decide) ?_
        exact ⟨rfl, Or.inr ⟨(by unfold sw_slp; rcases Int.lt_or_le ((((σ 26 30) + ((σ 26 31) * ((σ 26 0) - p))) + 1) * (10 + c)) ((((σ 26 29) + ((σ 26 31) * p)) + 1) * (10 - c)) with zz | zz; (rw [show min (sw_q0 (σ 26 29) (σ 26 31) p c) (sw_q1 (σ 26 30) (σ 26 31) (σ 26 0) p c) = ((((σ 26 30) + ((σ 26 31) * ((σ 26 0) - p))) + 1) * (10 + c)) from by unfold sw_q0 sw_q1; omega, show max (sw_q0 (σ 26 29) (σ 26 31) p c) (sw_q1 (σ 26 30) (σ 26 31) (σ 26 0) p c) = ((((σ 26 29) + ((σ 26 31) * p)) + 1) * (10 - c)) from by unfold sw_q0 sw_q1; omega]; omega); (rw [show min (sw_q0 (σ 26 29) (σ 26 31) p c) (sw_q1 (σ 26 30) (σ 26 31) (σ 26 0) p c) = ((((σ 26 29) + ((σ 26 31) * p)) + 1) * (10 - c)) from by unfold sw_q0 sw_q1; omega, show max (sw_q0 (σ 26 29) (σ 26 31) p c) (sw_q1 (σ 26 30) (σ 26 31) (σ 26 0) p c) = ((((σ 26 30) + ((σ 26 31) * ((σ 26 0) - p))) + 1) * (10 + c)) from by unfold sw_q0 sw_q1; omega]; omega)), rfl⟩⟩
      · refine sw_blk k_X8_isSlipping 2 86 [(5, .inl ((((σ 26 30) + ((σ 26 31) * ((σ 26 0) - p))) + 1) * (10 + c))), (4, .inl ((((σ 26 29) + ((σ 26 31) * p)) + 1) * (10 - c))), (0, .inr (.inr 26)), (1, .inl p), (2, .inl c), (3, .inl k)] [.inl 1] σ rfl ?_
        refine sw_zreturn k_X8_isSlipping rfl rfl (by decide) ?_
        exact ⟨rfl, Or.inl ⟨(by unfold sw_slp; rcases Int.lt_or_le ((((σ 26 30) + ((σ 26 31) * ((σ 26 0) - p))) + 1) * (10 + c)) ((((σ 26 29) + ((σ 26 31) * p)) + 1) * (10 - c)) with zz | zz; (rw [show min (sw_q0 (σ 26 29) (σ 26 31) p c) (sw_q1 (σ 26 30) (σ 26 31) (σ 26 0) p c) = ((((σ 26 30) + ((σ 26 31) * ((σ 26 0) - p))) + 1) * (10 + c)) from by unfold sw_q0 sw_q1; omega, show max (sw_q0 (σ 26 29) (σ 26 31) p c) (sw_q1 (σ 26 30) (σ 26 31) (σ 26 0) p c) = ((((σ 26 29) + ((σ 26 31) * p)) + 1) * (10 - c)) from by unfold sw_q0 sw_q1; omega]; omega); (rw [show min (sw_q0 (σ 26 29) (σ 26 31) p c) (sw_q1 (σ 26 30) (σ 26 31) (σ 26 0) p c) = ((((σ 26 29) + ((σ 26 31) * p)) + 1) * (10 - c)) from by unfold sw_q0 sw_q1; omega, show max (sw_q0 (σ 26 29) (σ 26 31) p c) (sw_q1 (σ 26 30) (σ 26 31) (σ 26 0) p c) = ((((σ 26 30) + ((σ 26 31) * ((σ 26 0) - p))) + 1) * (10 + c)) from by unfold sw_q0 sw_q1; omega]; omega)), rfl⟩⟩
    · refine sw_blk k_X8_isSlipping 3 78 [(5, .inl ((((σ 26 30) + ((σ 26 31) * ((σ 26 0) - p))) + 1) * (10 + c))), (4, .inl ((((σ 26 29) + ((σ 26 31) * p)) + 1) * (10 - c))), (0, .inr (.inr 26)), (1, .inl p), (2, .inl c), (3, .inl k)] [.inl (k * ((((σ 26 30) + ((σ 26 31) * ((σ 26 0) - p))) + 1) * (10 + c))), .inl (100 * ((((σ 26 30) + ((σ 26 31) * ((σ 26 0) - p))) + 1) * (10 + c)))] σ rfl ?_
      refine sw_icmp_le k_X8_isSlipping rfl (by omega) (by omega) 85 81 (by decide) rfl (fun c4 => ?_) (fun c4 => ?_)
      · refine sw_blk k_X8_isSlipping 1 86 [(5, .inl ((((σ 26 30) + ((σ 26 31) * ((σ 26 0) - p))) + 1) * (10 + c))), (4, .inl ((((σ 26 29) + ((σ 26 31) * p)) + 1) * (10 - c))), (0, .inr (.inr 26)), (1, .inl p), (2, .inl c), (3, .inl k)] [.inl 0] σ rfl ?_
        refine sw_zreturn k_X8_isSlipping rfl rfl (by decide) ?_
        exact ⟨rfl, Or.inr ⟨(by unfold sw_slp; rcases Int.lt_or_le ((((σ 26 30) + ((σ 26 31) * ((σ 26 0) - p))) + 1) * (10 + c)) ((((σ 26 29) + ((σ 26 31) * p)) + 1) * (10 - c)) with zz | zz; (rw [show min (sw_q0 (σ 26 29) (σ 26 31) p c) (sw_q1 (σ 26 30) (σ 26 31) (σ 26 0) p c) = ((((σ 26 30) + ((σ 26 31) * ((σ 26 0) - p))) + 1) * (10 + c)) from by unfold sw_q0 sw_q1; omega, show max (sw_q0 (σ 26 29) (σ 26 31) p c) (sw_q1 (σ 26 30) (σ 26 31) (σ 26 0) p c) = ((((σ 26 29) + ((σ 26 31) * p)) + 1) * (10 - c)) from by unfold sw_q0 sw_q1; omega]; omega); (rw [show min (sw_q0 (σ 26 29) (σ 26 31) p c) (sw_q1 (σ 26 30) (σ 26 31) (σ 26 0) p c) = ((((σ 26 29) + ((σ 26 31) * p)) + 1) * (10 - c)) from by unfold sw_q0 sw_q1; omega, show max (sw_q0 (σ 26 29) (σ 26 31) p c) (sw_q1 (σ 26 30) (σ 26 31) (σ 26 0) p c) = ((((σ 26 30) + ((σ 26 31) * ((σ 26 0) - p))) + 1) * (10 + c)) from by unfold sw_q0 sw_q1; omega]; omega)), rfl⟩⟩
      · refine sw_blk k_X8_isSlipping 2 86 [(5, .inl ((((σ 26 30) + ((σ 26 31) * ((σ 26 0) - p))) + 1) * (10 + c))), (4, .inl ((((σ 26 29) + ((σ 26 31) * p)) + 1) * (10 - c))), (0, .inr (.inr 26)), (1, .inl p), (2, .inl c), (3, .inl k)] [.inl 1] σ rfl ?_
        refine sw_zreturn k_X8_isSlipping rfl rfl (by decide) ?_
        exact ⟨rfl, Or.inl ⟨(by unfold sw_slp; rcases Int.lt_or_le ((((σ 26 30) + ((σ 26 31) * ((σ 26 0) - p))) + 1) * (10 + c)) ((((σ 26 29) + ((σ 26 31) * p)) + 1) * (10 - c)) with zz | zz; (rw [show min (sw_q0 (σ 26 29) (σ 26 31) p c) (sw_q1 (σ 26 30) (σ 26 31) (σ 26 0) p c) = ((((σ 26 30) + ((σ 26 31) * ((σ 26 0) - p))) + 1) * (10 + c)) from by unfold sw_q0 sw_q1; omega, show max (sw_q0 (σ 26 29) (σ 26 31) p c) (sw_q1 (σ 26 30) (σ 26 31) (σ 26 0) p c) = ((((σ 26 29) + ((σ 26 31) * p)) + 1) * (10 - c)) from by unfold sw_q0 sw_q1; omega]; omega); (rw [show min (sw_q0 (σ 26 29) (σ 26 31) p c) (sw_q1 (σ 26 30) (σ 26 31) (σ 26 0) p c) = ((((σ 26 29) + ((σ 26 31) * p)) + 1) * (10 - c)) from by unfold sw_q0 sw_q1; omega, show max (sw_q0 (σ 26 29) (σ 26 31) p c) (sw_q1 (σ 26 30) (σ 26 31) (σ 26 0) p c) = ((((σ 26 30) + ((σ 26 31) * ((σ 26 0) - p))) + 1) * (10 + c)) from by unfold sw_q0 sw_q1; omega]; omega)), rfl⟩⟩
  · refine sw_blk k_X8_isSlipping 6 67 [(5, .inl ((((σ 26 30) + ((σ 26 31) * ((σ 26 0) - p))) + 1) * (10 + c))), (4, .inl ((((σ 26 29) + ((σ 26 31) * p)) + 1) * (10 - c))), (0, .inr (.inr 26)), (1, .inl p), (2, .inl c), (3, .inl k)] [.inl ((((σ 26 30) + ((σ 26 31) * ((σ 26 0) - p))) + 1) * (10 + c)), .inl ((((σ 26 29) + ((σ 26 31) * p)) + 1) * (10 - c)), .inl k, .inl (100 * ((((σ 26 29) + ((σ 26 31) * p)) + 1) * (10 - c)))] σ rfl ?_
    refine sw_icmp_le k_X8_isSlipping rfl (by omega) (by omega) 75 70 (by decide) rfl (fun c5 => ?_) (fun c5 => ?_)
    · refine sw_blk k_X8_isSlipping 2 78 [(5, .inl ((((σ 26 30) + ((σ 26 31) * ((σ 26 0) - p))) + 1) * (10 + c))), (4, .inl ((((σ 26 29) + ((σ 26 31) * p)) + 1) * (10 - c))), (0, .inr (.inr 26)), (1, .inl p), (2, .inl c), (3, .inl k)] [.inl (k * ((((σ 26 29) + ((σ 26 31) * p)) + 1) * (10 - c))), .inl (100 * ((((σ 26 29) + ((σ 26 31) * p)) + 1) * (10 - c)))] σ rfl ?_
      refine sw_icmp_le k_X8_isSlipping rfl (by omega) (by omega) 85 81 (by decide) rfl (fun c6 => ?_) (fun c6 => ?_)
      · refine sw_blk k_X8_isSlipping 1 86 [(5, .inl ((((σ 26 30) + ((σ 26 31) * ((σ 26 0) - p))) + 1) * (10 + c))), (4, .inl ((((σ 26 29) + ((σ 26 31) * p)) + 1) * (10 - c))), (0, .inr (.inr 26)), (1, .inl p), (2, .inl c), (3, .inl k)] [.inl 0] σ rfl ?_
        refine sw_zreturn k_X8_isSlipping rfl rfl (by decide) ?_
        exact ⟨rfl, Or.inr ⟨(by unfold sw_slp; rcases Int.lt_or_le ((((σ 26 30) + ((σ 26 31) * ((σ 26 0) - p))) + 1) * (10 + c)) ((((σ 26 29) + ((σ 26 31) * p)) + 1) * (10 - c)) with zz | zz; (rw [show min (sw_q0 (σ 26 29) (σ 26 31) p c) (sw_q1 (σ 26 30) (σ 26 31) (σ 26 0) p c) = ((((σ 26 30) + ((σ 26 31) * ((σ 26 0) - p))) + 1) * (10 + c)) from by unfold sw_q0 sw_q1; omega, show max (sw_q0 (σ 26 29) (σ 26 31) p c) (sw_q1 (σ 26 30) (σ 26 31) (σ 26 0) p c) = ((((σ 26 29) + ((σ 26 31) * p)) + 1) * (10 - c)) from by unfold sw_q0 sw_q1; omega]; omega); (rw [show min (sw_q0 (σ 26 29) (σ 26 31) p c) (sw_q1 (σ 26 30) (σ 26 31) (σ 26 0) p c) = ((((σ 26 29) + ((σ 26 31) * p)) + 1) * (10 - c)) from by unfold sw_q0 sw_q1; omega, show max (sw_q0 (σ 26 29) (σ 26 31) p c) (sw_q1 (σ 26 30) (σ 26 31) (σ 26 0) p c) = ((((σ 26 30) + ((σ 26 31) * ((σ 26 0) - p))) + 1) * (10 + c)) from by unfold sw_q0 sw_q1; omega]; omega)), rfl⟩⟩
      · refine sw_blk k_X8_isSlipping 2 86 [(5, .inl ((((σ 26 30) + ((σ 26 31) * ((σ 26 0) - p))) + 1) * (10 + c))), (4, .inl ((((σ 26 29) + ((σ 26 31) * p)) + 1) * (10 - c))), (0, .inr (.inr 26)), (1, .inl p), (2, .inl c), (3, .inl k)] [.inl 1] σ rfl ?_
        refine sw_zreturn k_X8_isSlipping rfl rfl (by decide) ?_
        exact ⟨rfl, Or.inl ⟨(by unfold sw_slp; rcases Int.lt_or_le ((((σ 26 30) + ((σ 26 31) * ((σ 26 0) - p))) + 1) * (10 + c)) ((((σ 26 29) + ((σ 26 31) * p)) + 1) * (10 - c)) with zz | zz; (rw [show min (sw_q0 (σ 26 29) (σ 26 31) p c) (sw_q1 (σ 26 30) (σ 26 31) (σ 26 0) p c) = ((((σ 26 30) + ((σ 26 31) * ((σ 26 0) - p))) + 1) * (10 + c)) from by unfold sw_q0 sw_q1; omega, show max (sw_q0 (σ 26 29) (σ 26 31) p c) (sw_q1 (σ 26 30) (σ 26 31) (σ 26 0) p c) = ((((σ 26 29) + ((σ 26 31) * p)) + 1) * (10 - c)) from by unfold sw_q0 sw_q1; omega]; omega); (rw [show min (sw_q0 (σ 26 29) (σ 26 31) p c) (sw_q1 (σ 26 30) (σ 26 31) (σ 26 0) p c) = ((((σ 26 29) + ((σ 26 31) * p)) + 1) * (10 - c)) from by unfold sw_q0 sw_q1; omega, show max (sw_q0 (σ 26 29) (σ 26 31) p c) (sw_q1 (σ 26 30) (σ 26 31) (σ 26 0) p c) = ((((σ 26 30) + ((σ 26 31) * ((σ 26 0) - p))) + 1) * (10 + c)) from by unfold sw_q0 sw_q1; omega]; omega)), rfl⟩⟩
    · refine sw_blk k_X8_isSlipping 3 78 [(5, .inl ((((σ 26 30) + ((σ 26 31) * ((σ 26 0) - p))) + 1) * (10 + c))), (4, .inl ((((σ 26 29) + ((σ 26 31) * p)) + 1) * (10 - c))), (0, .inr (.inr 26)), (1, .inl p), (2, .inl c), (3, .inl k)] [.inl (k * ((((σ 26 30) + ((σ 26 31) * ((σ 26 0) - p))) + 1) * (10 + c))), .inl (100 * ((((σ 26 29) + ((σ 26 31) * p)) + 1) * (10 - c)))] σ rfl ?_
      refine sw_icmp_le k_X8_isSlipping rfl (by omega) (by omega) 85 81 (by decide) rfl (fun c7 => ?_) (fun c7 => ?_)
      · refine sw_blk k_X8_isSlipping 1 86 [(5, .inl ((((σ 26 30) + ((σ 26 31) * ((σ 26 0) - p))) + 1) * (10 + c))), (4, .inl ((((σ 26 29) + ((σ 26 31) * p)) + 1) * (10 - c))), (0, .inr (.inr 26)), (1, .inl p), (2, .inl c), (3, .inl k)] [.inl 0] σ rfl ?_
        refine sw_zreturn k_X8_isSlipping rfl rfl (by decide) ?_
        exact ⟨rfl, Or.inr ⟨(by unfold sw_slp; rcases Int.lt_or_le ((((σ 26 30) + ((σ 26 31) * ((σ 26 0) - p))) + 1) * (10 + c)) ((((σ 26 29) + ((σ 26 31) * p)) + 1) * (10 - c)) with zz | zz; (rw [show min (sw_q0 (σ 26 29) (σ 26 31) p c) (sw_q1 (σ 26 30) (σ 26 31) (σ 26 0) p c) = ((((σ 26 30) + ((σ 26 31) * ((σ 26 0) - p))) + 1) * (10 + c)) from by unfold sw_q0 sw_q1; omega, show max (sw_q0 (σ 26 29) (σ 26 31) p c) (sw_q1 (σ 26 30) (σ 26 31) (σ 26 0) p c) = ((((σ 26 29) + ((σ 26 31) * p)) + 1) * (10 - c)) from by unfold sw_q0 sw_q1; omega]; omega); (rw [show min (sw_q0 (σ 26 29) (σ 26 31) p c) (sw_q1 (σ 26 30) (σ 26 31) (σ 26 0) p c) = ((((σ 26 29) + ((σ 26 31) * p)) + 1) * (10 - c)) from by unfold sw_q0 sw_q1; omega, show max (sw_q0 (σ 26 29) (σ 26 31) p c) (sw_q1 (σ 26 30) (σ 26 31) (σ 26 0) p c) = ((((σ 26 30) + ((σ 26 31) * ((σ 26 0) - p))) + 1) * (10 + c)) from by unfold sw_q0 sw_q1; omega]; omega)), rfl⟩⟩
      · refine sw_blk k_X8_isSlipping 2 86 [(5, .inl ((((σ 26 30) + ((σ 26 31) * ((σ 26 0) - p))) + 1) * (10 + c))), (4, .inl ((((σ 26 29) + ((σ 26 31) * p)) + 1) * (10 - c))), (0, .inr (.inr 26)), (1, .inl p), (2, .inl c), (3, .inl k)] [.inl 1] σ rfl ?_
        refine sw_zreturn k_X8_isSlipping rfl rfl (by decide) ?_
        exact ⟨rfl, Or.inl ⟨(by unfold sw_slp; rcases Int.lt_or_le ((((σ 26 30) + ((σ 26 31) * ((σ 26 0) - p))) + 1) * (10 + c)) ((((σ 26 29) + ((σ 26 31) * p)) + 1) * (10 - c)) with zz | zz; (rw [show min (sw_q0 (σ 26 29) (σ 26 31) p c) (sw_q1 (σ 26 30) (σ 26 31) (σ 26 0) p c) = ((((σ 26 30) + ((σ 26 31) * ((σ 26 0) - p))) + 1) * (10 + c)) from by unfold sw_q0 sw_q1; omega, show max (sw_q0 (σ 26 29) (σ 26 31) p c) (sw_q1 (σ 26 30) (σ 26 31) (σ 26 0) p c) = ((((σ 26 29) + ((σ 26 31) * p)) + 1) * (10 - c)) from by unfold sw_q0 sw_q1; omega]; omega); (rw [show min (sw_q0 (σ 26 29) (σ 26 31) p c) (sw_q1 (σ 26 30) (σ 26 31) (σ 26 0) p c) = ((((σ 26 29) + ((σ 26 31) * p)) + 1) * (10 - c)) from by unfold sw_q0 sw_q1; omega, show max (sw_q0 (σ 26 29) (σ 26 31) p c) (sw_q1 (σ 26 30) (σ 26 31) (σ 26 0) p c) = ((((σ 26 30) + ((σ 26 31) * ((σ 26 0) - p))) + 1) * (10 + c)) from by unfold sw_q0 sw_q1; omega]; omega)), rfl⟩⟩
theorem mm_slips (σ : sw_S) (hσ : sw_gs σ) (hl0 : 0 ≤ σ 26 29 ∧ σ 26 29 ≤ 1000) (hl1 : 0 ≤ σ 26 30 ∧ σ 26 30 ≤ 1000) (hwt : 0 ≤ σ 26 31 ∧ σ 26 31 ≤ 10) (hD : 10 ≤ σ 26 0 ∧ σ 26 0 ≤ 400) (hkp : 100 ≤ σ 26 32 ∧ σ 26 32 ≤ 400) (p c : Int) (gp : sw_g p) (gc : sw_g c) : sw_Con sw_ly sw_rho M_X8_slips [.inr (.inr 26), .inl p, .inl c] σ (fun r σ' => (¬ ((0 ≤ p ∧ p ≤ σ 26 0) ∧ (-9 ≤ c ∧ c ≤ 9)) ∧ r = some (.inl (-2)) ∧ σ = σ') ∨ ((((0 ≤ p ∧ p ≤ σ 26 0) ∧ (-9 ≤ c ∧ c ≤ 9)) ∧ sw_slp (σ 26 29) (σ 26 30) (σ 26 31) (σ 26 0) p c (σ 26 32)) ∧ r = some (.inl (1)) ∧ σ = σ') ∨ ((((0 ≤ p ∧ p ≤ σ 26 0) ∧ (-9 ≤ c ∧ c ≤ 9)) ∧ ¬ sw_slp (σ 26 29) (σ 26 30) (σ 26 31) (σ 26 0) p c (σ 26 32)) ∧ r = some (.inl (0)) ∧ σ = σ')) := by
  refine sw_con (by decide) (Nat.le_of_ble_eq_true rfl) ?_
  refine sw_blk k_X8_slips 2 2 [(0, .inr (.inr 26)), (1, .inl p), (2, .inl c)] [.inl p, .inr (.inr 26)] σ rfl ?_
  refine sw_callV k_X8_slips rfl cV_X8_isPlace ml_X8_103 ⟨by decide, by decide⟩ 26 rfl rfl [.inl p] [] rfl rfl (Nat.le_of_ble_eq_true rfl) 5 rfl (sp_mPlace σ p (by omega) (hσ 26 0)) (fun r2 σ3 hq4 => ?_)
  obtain ⟨rfl, ⟨p1, rfl⟩ | ⟨p1, rfl⟩⟩ := hq4
  · have p1 : 0 ≤ p ∧ p ≤ (σ 26 0) := p1
    refine sw_blk k_X8_slips 0 5 [(0, .inr (.inr 26)), (1, .inl p), (2, .inl c)] [.inl 1] σ rfl ?_
    refine sw_if_eq k_X8_slips rfl (by decide) 40 8 (by decide) rfl (fun c => absurd c (by decide)) (fun _ => ?_)
    refine sw_blk k_X8_slips 3 13 [(0, .inr (.inr 26)), (1, .inl p), (2, .inl c)] [.inl 9, .inl (-9), .inl c] σ rfl ?_
    refine sw_callS k_X8_slips rfl cS_X8_in ml_X8_87 ⟨by decide, by decide⟩ [.inl c, .inl (-9), .inl 9] [] rfl rfl (Nat.le_of_ble_eq_true rfl) 16 rfl (sp_in σ c (-9) 9 (by omega) (by decide) (by decide)) (fun r6 σ7 hq8 => ?_)
    obtain ⟨rfl, ⟨p5, rfl⟩ | ⟨p5, rfl⟩⟩ := hq8
    · refine sw_blk k_X8_slips 0 16 [(0, .inr (.inr 26)), (1, .inl p), (2, .inl c)] [.inl 1] σ rfl ?_
      refine sw_if_eq k_X8_slips rfl (by decide) 40 19 (by decide) rfl (fun c => absurd c (by decide)) (fun _ => ?_)
      refine sw_blk k_X8_slips 5 26 [(0, .inr (.inr 26)), (1, .inl p), (2, .inl c)] [.inl (σ 26 32), .inl c, .inl p, .inr (.inr 26)] σ rfl ?_
      refine sw_callV k_X8_slips rfl cV_X8_isSlipping ml_X8_175 ⟨by decide, by decide⟩ 26 rfl rfl [.inl p, .inl c, .inl (σ 26 32)] [] rfl rfl (Nat.le_of_ble_eq_true rfl) 29 rfl (sp_mSlips σ hl0 hl1 hwt hD p c (σ 26 32) (by omega) (by omega) (by omega)) (fun r10 σ11 hq12 => ?_)
      obtain ⟨rfl, ⟨p9, rfl⟩ | ⟨p9, rfl⟩⟩ := hq12
      · have hsl := p9
        refine sw_blk k_X8_slips 0 29 [(0, .inr (.inr 26)), (1, .inl p), (2, .inl c)] [.inl 1] σ rfl ?_
        refine sw_if_eq k_X8_slips rfl (by decide) 36 32 (by decide) rfl (fun c => absurd c (by decide)) (fun _ => ?_)
        refine sw_blk k_X8_slips 2 42 [(0, .inr (.inr 26)), (1, .inl p), (2, .inl c)] [.inl 1] σ rfl ?_
        refine sw_ireturn k_X8_slips rfl rfl ?_
        exact Or.inr (Or.inl ⟨⟨by omega, hsl⟩, rfl, rfl⟩)
      · have hsl := p9
        refine sw_blk k_X8_slips 0 29 [(0, .inr (.inr 26)), (1, .inl p), (2, .inl c)] [.inl 0] σ rfl ?_
        refine sw_if_eq k_X8_slips rfl (by decide) 36 32 (by decide) rfl (fun _ => ?_) (fun c => absurd (by decide) c)
        refine sw_blk k_X8_slips 2 42 [(0, .inr (.inr 26)), (1, .inl p), (2, .inl c)] [.inl 0] σ rfl ?_
        refine sw_ireturn k_X8_slips rfl rfl ?_
        exact Or.inr (Or.inr ⟨⟨by omega, hsl⟩, rfl, rfl⟩)
    · refine sw_blk k_X8_slips 0 16 [(0, .inr (.inr 26)), (1, .inl p), (2, .inl c)] [.inl 0] σ rfl ?_
      refine sw_if_eq k_X8_slips rfl (by decide) 40 19 (by decide) rfl (fun _ => ?_) (fun c => absurd (by decide) c)
      refine sw_blk k_X8_slips 1 42 [(0, .inr (.inr 26)), (1, .inl p), (2, .inl c)] [.inl (-2)] σ rfl ?_
      refine sw_ireturn k_X8_slips rfl rfl ?_
      exact Or.inl ⟨by omega, rfl, rfl⟩
  · have p1 : ¬ (0 ≤ p ∧ p ≤ (σ 26 0)) := p1
    refine sw_blk k_X8_slips 0 5 [(0, .inr (.inr 26)), (1, .inl p), (2, .inl c)] [.inl 0] σ rfl ?_
    refine sw_if_eq k_X8_slips rfl (by decide) 40 8 (by decide) rfl (fun _ => ?_) (fun c => absurd (by decide) c)
    refine sw_blk k_X8_slips 1 42 [(0, .inr (.inr 26)), (1, .inl p), (2, .inl c)] [.inl (-2)] σ rfl ?_
    refine sw_ireturn k_X8_slips rfl rfl ?_
    exact Or.inl ⟨by omega, rfl, rfl⟩
theorem sp_mlogged (σ : sw_S) (h26_18 : sw_g (σ 26 18)) : sw_Con sw_ly sw_rho M_X8_logged [.inr (.inr 26)] σ (fun r σ' => σ = σ' ∧ r = some (.inl (min (σ 26 18) 40))) := by
  refine sw_con (by decide) (Nat.le_of_ble_eq_true rfl) ?_
  refine sw_blk k_X8_logged 3 6 [(0, .inr (.inr 26))] [.inl 40, .inl (σ 26 18)] σ rfl ?_
  refine sw_icmp_ge k_X8_logged rfl h26_18 (by decide) 16 9 (by decide) rfl (fun c1 => ?_) (fun c1 => ?_)
  · refine sw_blk k_X8_logged 1 18 [(0, .inr (.inr 26))] [.inl 40] σ rfl ?_
    refine sw_ireturn k_X8_logged rfl rfl ?_
    exact ⟨rfl, congrArg (fun q : Int => some (Sum.inl q)) (show (40 : Int) = min (σ 26 18) 40 from by omega)⟩
  · refine sw_blk k_X8_logged 3 18 [(0, .inr (.inr 26))] [.inl (σ 26 18)] σ rfl ?_
    refine sw_ireturn k_X8_logged rfl rfl ?_
    exact ⟨rfl, congrArg (fun q : Int => some (Sum.inl q)) (show ((σ 26 18) : Int) = min (σ 26 18) 40 from by omega)⟩
theorem mm_log (σ : sw_S) (hσ : sw_gs σ) (h61 : 0 ≤ σ 26 18 ∧ σ 26 18 < 1000000) (i w : Int) (gi : sw_g i) (gw : sw_g w) : sw_Con sw_ly sw_rho M_X8_log [.inr (.inr 26), .inl i, .inl w] σ (fun r σ' => (¬ ((0 ≤ i ∧ i ≤ min (σ 26 18) 40 - 1) ∧ (0 ≤ w ∧ w ≤ 2)) ∧ r = some (.inl (-2000)) ∧ σ = σ') ∨ (((0 ≤ i ∧ i ≤ min (σ 26 18) 40 - 1) ∧ (0 ≤ w ∧ w ≤ 2)) ∧ r = some (.inl (σ 39 (3 * ((σ 26 18 - 1 - i) % 40) + w).toNat)) ∧ σ = σ')) := by
  refine sw_con (by decide) (Nat.le_of_ble_eq_true rfl) ?_
  refine sw_blk k_X8_log 3 3 [(0, .inr (.inr 26)), (1, .inl i), (2, .inl w)] [.inr (.inr 26), .inl 0, .inl i] σ rfl ?_
  refine sw_callV k_X8_log rfl cV_X8_logged ml_X8_191 ⟨by decide, by decide⟩ 26 rfl rfl [] [.inl 0, .inl i] rfl rfl (Nat.le_of_ble_eq_true rfl) 6 rfl (sp_mlogged σ  (hσ 26 _)) (fun r1 σ2 hq3 => ?_)
  obtain ⟨rfl, rfl⟩ := hq3
  refine sw_blk k_X8_log 2 8 [(0, .inr (.inr 26)), (1, .inl i), (2, .inl w)] [.inl ((min (σ 26 18) 40) - 1), .inl 0, .inl i] σ rfl ?_
  refine sw_callS k_X8_log rfl cS_X8_in ml_X8_87 ⟨by decide, by decide⟩ [.inl i, .inl 0, .inl ((min (σ 26 18) 40) - 1)] [] rfl rfl (Nat.le_of_ble_eq_true rfl) 11 rfl (sp_in σ i 0 ((min (σ 26 18) 40) - 1) (by omega) (by decide) (by omega)) (fun r5 σ6 hq7 => ?_)
  obtain ⟨rfl, ⟨p4, rfl⟩ | ⟨p4, rfl⟩⟩ := hq7
  · refine sw_blk k_X8_log 0 11 [(0, .inr (.inr 26)), (1, .inl i), (2, .inl w)] [.inl 1] σ rfl ?_
    refine sw_if_eq k_X8_log rfl (by decide) 23 14 (by decide) rfl (fun c => absurd c (by decide)) (fun _ => ?_)
    refine sw_blk k_X8_log 3 17 [(0, .inr (.inr 26)), (1, .inl i), (2, .inl w)] [.inl 2, .inl 0, .inl w] σ rfl ?_
    refine sw_callS k_X8_log rfl cS_X8_in ml_X8_87 ⟨by decide, by decide⟩ [.inl w, .inl 0, .inl 2] [] rfl rfl (Nat.le_of_ble_eq_true rfl) 20 rfl (sp_in σ w 0 2 (by omega) (by decide) (by decide)) (fun r9 σ10 hq11 => ?_)
    obtain ⟨rfl, ⟨p8, rfl⟩ | ⟨p8, rfl⟩⟩ := hq11
    · refine sw_blk k_X8_log 0 20 [(0, .inr (.inr 26)), (1, .inl i), (2, .inl w)] [.inl 1] σ rfl ?_
      refine sw_if_ne k_X8_log rfl (by decide) 27 23 (by decide) rfl (fun _ => ?_) (fun c => absurd c (by decide))
      refine sw_blk k_X8_log 10 42 [(0, .inr (.inr 26)), (1, .inl i), (2, .inl w)] [.inl 40, .inl (((σ 26 18) - 1) - i), .inl 3, .inr (.inr 39)] σ rfl ?_
      refine sw_irem k_X8_log rfl (by omega) (by decide) (by omega) (by decide) 43 rfl ?_
      refine sw_blk k_X8_log 3 46 [(0, .inr (.inr 26)), (1, .inl i), (2, .inl w)] [.inl ((3 * ((((σ 26 18) - 1) - i) % 40)) + w), .inr (.inr 39)] σ rfl ?_
      refine sw_iald k_X8_log rfl (i := 39) (n := 120) rfl (by decide) (by omega) (by omega) 47 rfl ?_
      refine sw_blk k_X8_log 0 47 [(0, .inr (.inr 26)), (1, .inl i), (2, .inl w)] [.inl (σ 39 (((3 * ((((σ 26 18) - 1) - i) % 40)) + w).toNat))] σ rfl ?_
      refine sw_ireturn k_X8_log rfl rfl ?_
      exact Or.inr (⟨by omega, rfl, rfl⟩)
    · refine sw_blk k_X8_log 0 20 [(0, .inr (.inr 26)), (1, .inl i), (2, .inl w)] [.inl 0] σ rfl ?_
      refine sw_if_ne k_X8_log rfl (by decide) 27 23 (by decide) rfl (fun c => absurd (by decide) c) (fun _ => ?_)
      refine sw_blk k_X8_log 1 26 [(0, .inr (.inr 26)), (1, .inl i), (2, .inl w)] [.inl (-2000)] σ rfl ?_
      refine sw_ireturn k_X8_log rfl rfl ?_
      exact Or.inl ⟨by omega, rfl, rfl⟩
  · refine sw_blk k_X8_log 0 11 [(0, .inr (.inr 26)), (1, .inl i), (2, .inl w)] [.inl 0] σ rfl ?_
    refine sw_if_eq k_X8_log rfl (by decide) 23 14 (by decide) rfl (fun _ => ?_) (fun c => absurd (by decide) c)
    refine sw_blk k_X8_log 1 26 [(0, .inr (.inr 26)), (1, .inl i), (2, .inl w)] [.inl (-2000)] σ rfl ?_
    refine sw_ireturn k_X8_log rfl rfl ?_
    exact Or.inl ⟨by omega, rfl, rfl⟩
theorem sp_meets (σ : sw_S) (k : Int) : sw_Con sw_ly sw_rho M_X8_meets [.inr (.inr 26), .inl k] σ (fun r σ' => (sw_u σ 26 39 k) = σ' ∧ r = some (.inl (-10 - k))) := by
  refine sw_con (by decide) (Nat.le_of_ble_eq_true rfl) ?_
  refine sw_blk k_X8_meets 6 9 [(0, .inr (.inr 26)), (1, .inl k)] [.inl ((-10) - k)] (sw_u σ 26 39 k) rfl ?_
  refine sw_ireturn k_X8_meets rfl rfl ?_
  exact ⟨rfl, rfl⟩
def sw_stm (σ : sw_S) (x : Int) : Int := if x = 0 then σ 26 10 else if x = 1 then σ 26 11 else if x = 2 then σ 26 12 else if x = 3 then σ 26 13 else if x = 4 then sw_cnt (σ 32) 8 else if x = 5 then σ 26 10 + (σ 33 0 + σ 33 1 + σ 33 2 - min (σ 33 0) (min (σ 33 1) (σ 33 2)) - max (σ 33 0) (max (σ 33 1) (σ 33 2))) else if x = 6 then σ 26 18 else if x = 7 then (if σ 26 12 = 1 then σ 26 22 - σ 26 23 else 0) else if x = 8 then σ 26 19 else if x = 9 then σ 26 20 else if x = 10 then σ 26 3 else if x = 11 then σ 26 7 else if x = 12 then σ 26 39 else -2000
theorem mm_state (σ : sw_S) (hσ : sw_gs σ) (x : Int) (gx : sw_g x) : sw_Con sw_ly sw_rho M_X8_state [.inr (.inr 26), .inl x] σ (fun r σ' => σ = σ' ∧ r = some (.inl (sw_stm σ x))) := by
  have hx : x = 0 ∨ x = 1 ∨ x = 2 ∨ x = 3 ∨ x = 4 ∨ x = 5 ∨ x = 6 ∨ x = 7 ∨ x = 8 ∨ x = 9 ∨ x = 10 ∨ x = 11 ∨ x = 12 ∨ (x < 0 ∨ 12 < x) := by omega
  rcases hx with rfl | rfl | rfl | rfl | rfl | rfl | rfl | rfl | rfl | rfl | rfl | rfl | rfl | hx
  · refine sw_con (by decide) (Nat.le_of_ble_eq_true rfl) ?_
    refine sw_blk k_X8_state 1 1 [(0, .inr (.inr 26)), (1, .inl 0)] [.inl 0] σ rfl ?_
    refine sw_tabIn k_X8_state rfl (by decide) (by decide) (by decide) rfl 68 (by decide) ?_
    refine sw_blk k_X8_state 2 72 [(0, .inr (.inr 26)), (1, .inl 0)] [.inl (σ 26 10)] σ rfl ?_
    refine sw_ireturn k_X8_state rfl rfl ?_
    exact ⟨rfl, rfl⟩
  · refine sw_con (by decide) (Nat.le_of_ble_eq_true rfl) ?_
    refine sw_blk k_X8_state 1 1 [(0, .inr (.inr 26)), (1, .inl 1)] [.inl 1] σ rfl ?_
    refine sw_tabIn k_X8_state rfl (by decide) (by decide) (by decide) rfl 73 (by decide) ?_
    refine sw_blk k_X8_state 2 77 [(0, .inr (.inr 26)), (1, .inl 1)] [.inl (σ 26 11)] σ rfl ?_
    refine sw_ireturn k_X8_state rfl rfl ?_
    exact ⟨rfl, rfl⟩
  · refine sw_con (by decide) (Nat.le_of_ble_eq_true rfl) ?_
    refine sw_blk k_X8_state 1 1 [(0, .inr (.inr 26)), (1, .inl 2)] [.inl 2] σ rfl ?_
    refine sw_tabIn k_X8_state rfl (by decide) (by decide) (by decide) rfl 78 (by decide) ?_
    refine sw_blk k_X8_state 2 82 [(0, .inr (.inr 26)), (1, .inl 2)] [.inl (σ 26 12)] σ rfl ?_
    refine sw_ireturn k_X8_state rfl rfl ?_
    exact ⟨rfl, rfl⟩
  · refine sw_con (by decide) (Nat.le_of_ble_eq_true rfl) ?_
    refine sw_blk k_X8_state 1 1 [(0, .inr (.inr 26)), (1, .inl 3)] [.inl 3] σ rfl ?_
    refine sw_tabIn k_X8_state rfl (by decide) (by decide) (by decide) rfl 83 (by decide) ?_
    refine sw_blk k_X8_state 2 87 [(0, .inr (.inr 26)), (1, .inl 3)] [.inl (σ 26 13)] σ rfl ?_
    refine sw_ireturn k_X8_state rfl rfl ?_
    exact ⟨rfl, rfl⟩
  · refine sw_con (by decide) (Nat.le_of_ble_eq_true rfl) ?_
    refine sw_blk k_X8_state 1 1 [(0, .inr (.inr 26)), (1, .inl 4)] [.inl 4] σ rfl ?_
    refine sw_tabIn k_X8_state rfl (by decide) (by decide) (by decide) rfl 88 (by decide) ?_
    refine sw_blk k_X8_state 1 89 [(0, .inr (.inr 26)), (1, .inl 4)] [.inr (.inr 26)] σ rfl ?_
    refine sw_callV k_X8_state rfl cV_X8_opens ml_X8_132 ⟨by decide, by decide⟩ 26 rfl rfl [] [] rfl rfl (Nat.le_of_ble_eq_true rfl) 92 rfl (sp_opens σ (fun j => hσ 32 j)) (fun r14 σ15 hq16 => ?_)
    obtain ⟨rfl, rfl⟩ := hq16
    refine sw_blk k_X8_state 0 92 [(0, .inr (.inr 26)), (1, .inl 4)] [.inl (sw_cnt (σ 32) 8)] σ rfl ?_
    refine sw_ireturn k_X8_state rfl rfl ?_
    exact ⟨rfl, rfl⟩
  · refine sw_con (by decide) (Nat.le_of_ble_eq_true rfl) ?_
    refine sw_blk k_X8_state 1 1 [(0, .inr (.inr 26)), (1, .inl 5)] [.inl 5] σ rfl ?_
    refine sw_tabIn k_X8_state rfl (by decide) (by decide) (by decide) rfl 93 (by decide) ?_
    refine sw_blk k_X8_state 1 94 [(0, .inr (.inr 26)), (1, .inl 5)] [.inr (.inr 26)] σ rfl ?_
    refine sw_callV k_X8_state rfl cV_X8_told ml_X8_145 ⟨by decide, by decide⟩ 26 rfl rfl [] [] rfl rfl (Nat.le_of_ble_eq_true rfl) 97 rfl (sp_mtold σ  (hσ 33 _) (hσ 33 _) (hσ 33 _)) (fun r14 σ15 hq16 => ?_)
    obtain ⟨rfl, rfl⟩ := hq16
    refine sw_blk k_X8_state 0 97 [(0, .inr (.inr 26)), (1, .inl 5)] [.inl (σ 26 10 + (σ 33 0 + σ 33 1 + σ 33 2 - min (σ 33 0) (min (σ 33 1) (σ 33 2)) - max (σ 33 0) (max (σ 33 1) (σ 33 2))))] σ rfl ?_
    refine sw_ireturn k_X8_state rfl rfl ?_
    exact ⟨rfl, rfl⟩
  · refine sw_con (by decide) (Nat.le_of_ble_eq_true rfl) ?_
    refine sw_blk k_X8_state 1 1 [(0, .inr (.inr 26)), (1, .inl 6)] [.inl 6] σ rfl ?_
    refine sw_tabIn k_X8_state rfl (by decide) (by decide) (by decide) rfl 98 (by decide) ?_
    refine sw_blk k_X8_state 2 102 [(0, .inr (.inr 26)), (1, .inl 6)] [.inl (σ 26 18)] σ rfl ?_
    refine sw_ireturn k_X8_state rfl rfl ?_
    exact ⟨rfl, rfl⟩
  · refine sw_con (by decide) (Nat.le_of_ble_eq_true rfl) ?_
    refine sw_blk k_X8_state 1 1 [(0, .inr (.inr 26)), (1, .inl 7)] [.inl 7] σ rfl ?_
    refine sw_tabIn k_X8_state rfl (by decide) (by decide) (by decide) rfl 103 (by decide) ?_
    refine sw_blk k_X8_state 3 108 [(0, .inr (.inr 26)), (1, .inl 7)] [.inl 1, .inl (σ 26 12)] σ rfl ?_
    refine sw_icmp_ne k_X8_state rfl (hσ 26 _) (by decide) 123 111 (by decide) rfl (fun c14 => ?_) (fun c14 => ?_)
    · refine sw_blk k_X8_state 1 124 [(0, .inr (.inr 26)), (1, .inl 7)] [.inl 0] σ rfl ?_
      refine sw_ireturn k_X8_state rfl rfl ?_
      exact ⟨rfl, congrArg (fun q : Int => some (Sum.inl q)) (show (0 : Int) = (if σ 26 12 = 1 then σ 26 22 - σ 26 23 else 0) from by omega)⟩
    · refine sw_blk k_X8_state 6 124 [(0, .inr (.inr 26)), (1, .inl 7)] [.inl ((σ 26 22) - (σ 26 23))] σ rfl ?_
      refine sw_ireturn k_X8_state rfl rfl ?_
      exact ⟨rfl, congrArg (fun q : Int => some (Sum.inl q)) (show (((σ 26 22) - (σ 26 23)) : Int) = (if σ 26 12 = 1 then σ 26 22 - σ 26 23 else 0) from by omega)⟩
  · refine sw_con (by decide) (Nat.le_of_ble_eq_true rfl) ?_
    refine sw_blk k_X8_state 1 1 [(0, .inr (.inr 26)), (1, .inl 8)] [.inl 8] σ rfl ?_
    refine sw_tabIn k_X8_state rfl (by decide) (by decide) (by decide) rfl 125 (by decide) ?_
    refine sw_blk k_X8_state 2 129 [(0, .inr (.inr 26)), (1, .inl 8)] [.inl (σ 26 19)] σ rfl ?_
    refine sw_ireturn k_X8_state rfl rfl ?_
    exact ⟨rfl, rfl⟩
  · refine sw_con (by decide) (Nat.le_of_ble_eq_true rfl) ?_
    refine sw_blk k_X8_state 1 1 [(0, .inr (.inr 26)), (1, .inl 9)] [.inl 9] σ rfl ?_
    refine sw_tabIn k_X8_state rfl (by decide) (by decide) (by decide) rfl 130 (by decide) ?_
    refine sw_blk k_X8_state 2 134 [(0, .inr (.inr 26)), (1, .inl 9)] [.inl (σ 26 20)] σ rfl ?_
    refine sw_ireturn k_X8_state rfl rfl ?_
    exact ⟨rfl, rfl⟩
  · refine sw_con (by decide) (Nat.le_of_ble_eq_true rfl) ?_
    refine sw_blk k_X8_state 1 1 [(0, .inr (.inr 26)), (1, .inl 10)] [.inl 10] σ rfl ?_
    refine sw_tabIn k_X8_state rfl (by decide) (by decide) (by decide) rfl 135 (by decide) ?_
    refine sw_blk k_X8_state 2 139 [(0, .inr (.inr 26)), (1, .inl 10)] [.inl (σ 26 3)] σ rfl ?_
    refine sw_ireturn k_X8_state rfl rfl ?_
    exact ⟨rfl, rfl⟩
  · refine sw_con (by decide) (Nat.le_of_ble_eq_true rfl) ?_
    refine sw_blk k_X8_state 1 1 [(0, .inr (.inr 26)), (1, .inl 11)] [.inl 11] σ rfl ?_
    refine sw_tabIn k_X8_state rfl (by decide) (by decide) (by decide) rfl 140 (by decide) ?_
    refine sw_blk k_X8_state 2 144 [(0, .inr (.inr 26)), (1, .inl 11)] [.inl (σ 26 7)] σ rfl ?_
    refine sw_ireturn k_X8_state rfl rfl ?_
    exact ⟨rfl, rfl⟩
  · refine sw_con (by decide) (Nat.le_of_ble_eq_true rfl) ?_
    refine sw_blk k_X8_state 1 1 [(0, .inr (.inr 26)), (1, .inl 12)] [.inl 12] σ rfl ?_
    refine sw_tabIn k_X8_state rfl (by decide) (by decide) (by decide) rfl 145 (by decide) ?_
    refine sw_blk k_X8_state 2 149 [(0, .inr (.inr 26)), (1, .inl 12)] [.inl (σ 26 39)] σ rfl ?_
    refine sw_ireturn k_X8_state rfl rfl ?_
    exact ⟨rfl, rfl⟩
  · refine sw_con (by decide) (Nat.le_of_ble_eq_true rfl) ?_
    refine sw_blk k_X8_state 1 1 [(0, .inr (.inr 26)), (1, .inl x)] [.inl x] σ rfl ?_
    refine sw_tabOut k_X8_state rfl (by omega) (by omega) 150 (by decide) ?_
    refine sw_blk k_X8_state 1 153 [(0, .inr (.inr 26)), (1, .inl x)] [.inl (-2000)] σ rfl ?_
    refine sw_ireturn k_X8_state rfl rfl ?_
    exact ⟨rfl, congrArg (fun q : Int => some (Sum.inl q)) (show ((-2000) : Int) = sw_stm σ x from by unfold sw_stm; (repeat rw [if_neg (by omega)]))⟩
