/-- what a sheet of a form keeps of a number -/
def sw_cv (f v : Int) : Int := if f = 0 then sw_b v else if f = 1 then sw_h v else v
theorem sw_b_g (v : Int) : sw_g (sw_b v) := ⟨by unfold sw_b; exact Int32.le_toInt _, by unfold sw_b; exact Int32.toInt_lt _⟩
theorem sw_h_g (v : Int) : sw_g (sw_h v) := ⟨by unfold sw_h; exact Int32.le_toInt _, by unfold sw_h; exact Int32.toInt_lt _⟩
theorem sw_cv_g {f v : Int} (h : sw_g v) : sw_g (sw_cv f v) := by
  unfold sw_cv
  split
  · exact sw_b_g v
  · split
    · exact sw_h_g v
    · exact h
theorem cc_sheetB (σ : sw_S) (s : Int) (gs : sw_g s) (hbad : ¬ (0 ≤ s ∧ s ≤ 3)) (f k : Int) (gf : sw_g f) (gk : sw_g k) : sw_Con sw_ly sw_rho M_X7_sheet [.inr (.inr 0), .inl s, .inl f, .inl k] σ (fun r σ' => r = some (.inl (-2)) ∧ σ = σ') := by
  refine sw_con (by decide) (Nat.le_of_ble_eq_true rfl) ?_
  refine sw_blk k_X7_sheet 1 1 [(0, .inr (.inr 0)), (1, .inl s), (2, .inl f), (3, .inl k)] [.inl s] σ rfl ?_
  refine sw_callS k_X7_sheet rfl cS_X7_isSheet ml_X7_219 ⟨by decide, by decide⟩ [.inl s] [] rfl rfl (Nat.le_of_ble_eq_true rfl) 4 rfl (sp_isSheet σ s (by omega)) (fun r2 σ3 hq4 => ?_)
  obtain ⟨rfl, ⟨p1, rfl⟩ | ⟨p1, rfl⟩⟩ := hq4
  · exact absurd p1 hbad
  · refine sw_blk k_X7_sheet 0 4 [(0, .inr (.inr 0)), (1, .inl s), (2, .inl f), (3, .inl k)] [.inl 0] σ rfl ?_
    refine sw_if_eq k_X7_sheet rfl (by decide) 20 7 (by decide) rfl (fun _ => ?_) (fun c => absurd (by decide) c)
    refine sw_blk k_X7_sheet 1 22 [(0, .inr (.inr 0)), (1, .inl s), (2, .inl f), (3, .inl k)] [.inl (-2)] σ rfl ?_
    refine sw_ireturn k_X7_sheet rfl rfl ?_
    exact ⟨rfl, rfl⟩
theorem cc_loseB (σ : sw_S) (s : Int) (gs : sw_g s) (hbad : ¬ (0 ≤ s ∧ s ≤ 3)) : sw_Con sw_ly sw_rho M_X7_lose [.inr (.inr 0), .inl s] σ (fun r σ' => r = some (.inl (-2)) ∧ σ = σ') := by
  refine sw_con (by decide) (Nat.le_of_ble_eq_true rfl) ?_
  refine sw_blk k_X7_lose 1 1 [(0, .inr (.inr 0)), (1, .inl s)] [.inl s] σ rfl ?_
  refine sw_callS k_X7_lose rfl cS_X7_isSheet ml_X7_219 ⟨by decide, by decide⟩ [.inl s] [] rfl rfl (Nat.le_of_ble_eq_true rfl) 4 rfl (sp_isSheet σ s (by omega)) (fun r2 σ3 hq4 => ?_)
  obtain ⟨rfl, ⟨p1, rfl⟩ | ⟨p1, rfl⟩⟩ := hq4
  · exact absurd p1 hbad
  · refine sw_blk k_X7_lose 0 4 [(0, .inr (.inr 0)), (1, .inl s)] [.inl 0] σ rfl ?_
    refine sw_if_ne k_X7_lose rfl (by decide) 10 7 (by decide) rfl (fun c => absurd (by decide) c) (fun _ => ?_)
    refine sw_blk k_X7_lose 1 9 [(0, .inr (.inr 0)), (1, .inl s)] [.inl (-2)] σ rfl ?_
    refine sw_ireturn k_X7_lose rfl rfl ?_
    exact ⟨rfl, rfl⟩
theorem cc_putB (σ : sw_S) (s : Int) (gs : sw_g s) (hbad : ¬ (0 ≤ s ∧ s ≤ 3)) (f i v : Int) (gf : sw_g f) (gi : sw_g i) (gv : sw_g v) : sw_Con sw_ly sw_rho M_X7_put [.inr (.inr 0), .inl s, .inl f, .inl i, .inl v] σ (fun r σ' => r = some (.inl (-2)) ∧ σ = σ') := by
  refine sw_con (by decide) (Nat.le_of_ble_eq_true rfl) ?_
  refine sw_blk k_X7_put 1 1 [(0, .inr (.inr 0)), (1, .inl s), (2, .inl f), (3, .inl i), (4, .inl v)] [.inl s] σ rfl ?_
  refine sw_callS k_X7_put rfl cS_X7_isSheet ml_X7_219 ⟨by decide, by decide⟩ [.inl s] [] rfl rfl (Nat.le_of_ble_eq_true rfl) 4 rfl (sp_isSheet σ s (by omega)) (fun r2 σ3 hq4 => ?_)
  obtain ⟨rfl, ⟨p1, rfl⟩ | ⟨p1, rfl⟩⟩ := hq4
  · exact absurd p1 hbad
  · refine sw_blk k_X7_put 0 4 [(0, .inr (.inr 0)), (1, .inl s), (2, .inl f), (3, .inl i), (4, .inl v)] [.inl 0] σ rfl ?_
    refine sw_if_eq k_X7_put rfl (by decide) 14 7 (by decide) rfl (fun _ => ?_) (fun c => absurd (by decide) c)
    refine sw_blk k_X7_put 1 16 [(0, .inr (.inr 0)), (1, .inl s), (2, .inl f), (3, .inl i), (4, .inl v)] [.inl (-2)] σ rfl ?_
    refine sw_ireturn k_X7_put rfl rfl ?_
    exact ⟨rfl, rfl⟩
theorem cc_getB (σ : sw_S) (s : Int) (gs : sw_g s) (hbad : ¬ (0 ≤ s ∧ s ≤ 3)) (f i : Int) (gf : sw_g f) (gi : sw_g i) : sw_Con sw_ly sw_rho M_X7_get [.inr (.inr 0), .inl s, .inl f, .inl i] σ (fun r σ' => r = some (.inl (-2147483648)) ∧ σ = σ') := by
  refine sw_con (by decide) (Nat.le_of_ble_eq_true rfl) ?_
  refine sw_blk k_X7_get 1 1 [(0, .inr (.inr 0)), (1, .inl s), (2, .inl f), (3, .inl i)] [.inl s] σ rfl ?_
  refine sw_callS k_X7_get rfl cS_X7_isSheet ml_X7_219 ⟨by decide, by decide⟩ [.inl s] [] rfl rfl (Nat.le_of_ble_eq_true rfl) 4 rfl (sp_isSheet σ s (by omega)) (fun r2 σ3 hq4 => ?_)
  obtain ⟨rfl, ⟨p1, rfl⟩ | ⟨p1, rfl⟩⟩ := hq4
  · exact absurd p1 hbad
  · refine sw_blk k_X7_get 0 4 [(0, .inr (.inr 0)), (1, .inl s), (2, .inl f), (3, .inl i)] [.inl 0] σ rfl ?_
    refine sw_if_eq k_X7_get rfl (by decide) 14 7 (by decide) rfl (fun _ => ?_) (fun c => absurd (by decide) c)
    refine sw_blk k_X7_get 1 16 [(0, .inr (.inr 0)), (1, .inl s), (2, .inl f), (3, .inl i)] [.inl (-2147483648)] σ rfl ?_
    refine sw_ireturn k_X7_get rfl rfl ?_
    exact ⟨rfl, rfl⟩
theorem cc_readB (σ : sw_S) (s : Int) (gs : sw_g s) (hbad : ¬ (0 ≤ s ∧ s ≤ 3)) : sw_Con sw_ly sw_rho M_X7_read [.inr (.inr 0), .inl s] σ (fun r σ' => r = some (.inl (-2)) ∧ σ = σ') := by
  refine sw_con (by decide) (Nat.le_of_ble_eq_true rfl) ?_
  refine sw_blk k_X7_read 1 1 [(0, .inr (.inr 0)), (1, .inl s)] [.inl s] σ rfl ?_
  refine sw_callS k_X7_read rfl cS_X7_isSheet ml_X7_219 ⟨by decide, by decide⟩ [.inl s] [] rfl rfl (Nat.le_of_ble_eq_true rfl) 4 rfl (sp_isSheet σ s (by omega)) (fun r2 σ3 hq4 => ?_)
  obtain ⟨rfl, ⟨p1, rfl⟩ | ⟨p1, rfl⟩⟩ := hq4
  · exact absurd p1 hbad
  · refine sw_blk k_X7_read 0 4 [(0, .inr (.inr 0)), (1, .inl s)] [.inl 0] σ rfl ?_
    refine sw_if_ne k_X7_read rfl (by decide) 10 7 (by decide) rfl (fun c => absurd (by decide) c) (fun _ => ?_)
    refine sw_blk k_X7_read 1 9 [(0, .inr (.inr 0)), (1, .inl s)] [.inl (-2)] σ rfl ?_
    refine sw_ireturn k_X7_read rfl rfl ?_
    exact ⟨rfl, rfl⟩
theorem cc_writeB (σ : sw_S) (s : Int) (gs : sw_g s) (hbad : ¬ (0 ≤ s ∧ s ≤ 3)) (w : Int) (gw : sw_g w) : sw_Con sw_ly sw_rho M_X7_write [.inr (.inr 0), .inl s, .inl w] σ (fun r σ' => r = some (.inl (-2)) ∧ σ = σ') := by
  refine sw_con (by decide) (Nat.le_of_ble_eq_true rfl) ?_
  refine sw_blk k_X7_write 1 1 [(0, .inr (.inr 0)), (1, .inl s), (2, .inl w)] [.inl s] σ rfl ?_
  refine sw_callS k_X7_write rfl cS_X7_isSheet ml_X7_219 ⟨by decide, by decide⟩ [.inl s] [] rfl rfl (Nat.le_of_ble_eq_true rfl) 4 rfl (sp_isSheet σ s (by omega)) (fun r2 σ3 hq4 => ?_)
  obtain ⟨rfl, ⟨p1, rfl⟩ | ⟨p1, rfl⟩⟩ := hq4
  · exact absurd p1 hbad
  · refine sw_blk k_X7_write 0 4 [(0, .inr (.inr 0)), (1, .inl s), (2, .inl w)] [.inl 0] σ rfl ?_
    refine sw_if_eq k_X7_write rfl (by decide) 16 7 (by decide) rfl (fun _ => ?_) (fun c => absurd (by decide) c)
    refine sw_blk k_X7_write 1 18 [(0, .inr (.inr 0)), (1, .inl s), (2, .inl w)] [.inl (-2)] σ rfl ?_
    refine sw_ireturn k_X7_write rfl rfl ?_
    exact ⟨rfl, rfl⟩
theorem cc_planB (σ : sw_S) (s : Int) (gs : sw_g s) (hbad : ¬ (0 ≤ s ∧ s ≤ 3)) (q : Int) (gq : sw_g q) : sw_Con sw_ly sw_rho M_X7_plan [.inr (.inr 0), .inl s, .inl q] σ (fun r σ' => r = some (.inl (-2)) ∧ σ = σ') := by
  refine sw_con (by decide) (Nat.le_of_ble_eq_true rfl) ?_
  refine sw_blk k_X7_plan 1 1 [(0, .inr (.inr 0)), (1, .inl s), (2, .inl q)] [.inl s] σ rfl ?_
  refine sw_callS k_X7_plan rfl cS_X7_isSheet ml_X7_219 ⟨by decide, by decide⟩ [.inl s] [] rfl rfl (Nat.le_of_ble_eq_true rfl) 4 rfl (sp_isSheet σ s (by omega)) (fun r2 σ3 hq4 => ?_)
  obtain ⟨rfl, ⟨p1, rfl⟩ | ⟨p1, rfl⟩⟩ := hq4
  · exact absurd p1 hbad
  · refine sw_blk k_X7_plan 0 4 [(0, .inr (.inr 0)), (1, .inl s), (2, .inl q)] [.inl 0] σ rfl ?_
    refine sw_if_eq k_X7_plan rfl (by decide) 18 7 (by decide) rfl (fun _ => ?_) (fun c => absurd (by decide) c)
    refine sw_blk k_X7_plan 1 20 [(0, .inr (.inr 0)), (1, .inl s), (2, .inl q)] [.inl (-2)] σ rfl ?_
    refine sw_ireturn k_X7_plan rfl rfl ?_
    exact ⟨rfl, rfl⟩
theorem cc_checkB (σ : sw_S) (s : Int) (gs : sw_g s) (hbad : ¬ (0 ≤ s ∧ s ≤ 3)) : sw_Con sw_ly sw_rho M_X7_check [.inr (.inr 0), .inl s] σ (fun r σ' => r = some (.inl (-2)) ∧ σ = σ') := by
  refine sw_con (by decide) (Nat.le_of_ble_eq_true rfl) ?_
  refine sw_blk k_X7_check 1 1 [(0, .inr (.inr 0)), (1, .inl s)] [.inl s] σ rfl ?_
  refine sw_callS k_X7_check rfl cS_X7_isSheet ml_X7_219 ⟨by decide, by decide⟩ [.inl s] [] rfl rfl (Nat.le_of_ble_eq_true rfl) 4 rfl (sp_isSheet σ s (by omega)) (fun r2 σ3 hq4 => ?_)
  obtain ⟨rfl, ⟨p1, rfl⟩ | ⟨p1, rfl⟩⟩ := hq4
  · exact absurd p1 hbad
  · refine sw_blk k_X7_check 0 4 [(0, .inr (.inr 0)), (1, .inl s)] [.inl 0] σ rfl ?_
    refine sw_if_ne k_X7_check rfl (by decide) 10 7 (by decide) rfl (fun c => absurd (by decide) c) (fun _ => ?_)
    refine sw_blk k_X7_check 1 9 [(0, .inr (.inr 0)), (1, .inl s)] [.inl (-2)] σ rfl ?_
    refine sw_ireturn k_X7_check rfl rfl ?_
    exact ⟨rfl, rfl⟩
theorem cc_sheet0 (σ : sw_S) (f k : Int) (gf : sw_g f) (gk : sw_g k) : sw_Con sw_ly sw_rho M_X7_sheet [.inr (.inr 0), .inl 0, .inl f, .inl k] σ (fun r σ' => (¬ ((0 ≤ f ∧ f ≤ 2) ∧ k ≤ 60) ∧ r = some (.inl (-2)) ∧ σ = σ') ∨ ((((0 ≤ f ∧ f ≤ 2) ∧ k ≤ 60) ∧ k < 0) ∧ r = some (.inl (-10 - 5)) ∧ (sw_u σ 0 9 5) = σ') ∨ ((((0 ≤ f ∧ f ≤ 2) ∧ k ≤ 60) ∧ 0 ≤ k) ∧ r = some (.inl (k)) ∧ (sw_fl (sw_u (sw_u (sw_u σ 15 2 f) 15 3 k) 15 1 0) 16 60 0) = σ')) := by
  refine sw_con (by decide) (Nat.le_of_ble_eq_true rfl) ?_
  refine sw_blk k_X7_sheet 1 1 [(0, .inr (.inr 0)), (1, .inl 0), (2, .inl f), (3, .inl k)] [.inl 0] σ rfl ?_
  refine sw_callS k_X7_sheet rfl cS_X7_isSheet ml_X7_219 ⟨by decide, by decide⟩ [.inl 0] [] rfl rfl (Nat.le_of_ble_eq_true rfl) 4 rfl (sp_isSheet σ 0 (by decide)) (fun r2 σ3 hq4 => ?_)
  obtain ⟨rfl, ⟨p1, rfl⟩ | ⟨p1, rfl⟩⟩ := hq4
  · refine sw_blk k_X7_sheet 0 4 [(0, .inr (.inr 0)), (1, .inl 0), (2, .inl f), (3, .inl k)] [.inl 1] σ rfl ?_
    refine sw_if_eq k_X7_sheet rfl (by decide) 20 7 (by decide) rfl (fun c => absurd c (by decide)) (fun _ => ?_)
    refine sw_blk k_X7_sheet 1 8 [(0, .inr (.inr 0)), (1, .inl 0), (2, .inl f), (3, .inl k)] [.inl f] σ rfl ?_
    refine sw_callS k_X7_sheet rfl cS_X7_isForm ml_X7_222 ⟨by decide, by decide⟩ [.inl f] [] rfl rfl (Nat.le_of_ble_eq_true rfl) 11 rfl (sp_isForm σ f (by omega)) (fun r6 σ7 hq8 => ?_)
    obtain ⟨rfl, ⟨p5, rfl⟩ | ⟨p5, rfl⟩⟩ := hq8
    · refine sw_blk k_X7_sheet 0 11 [(0, .inr (.inr 0)), (1, .inl 0), (2, .inl f), (3, .inl k)] [.inl 1] σ rfl ?_
      refine sw_if_eq k_X7_sheet rfl (by decide) 20 14 (by decide) rfl (fun c => absurd c (by decide)) (fun _ => ?_)
      refine sw_blk k_X7_sheet 2 17 [(0, .inr (.inr 0)), (1, .inl 0), (2, .inl f), (3, .inl k)] [.inl 60, .inl k] σ rfl ?_
      refine sw_icmp_le k_X7_sheet rfl (by omega) (by decide) 23 20 (by decide) rfl (fun c9 => ?_) (fun c9 => ?_)
      · refine sw_blk k_X7_sheet 1 24 [(0, .inr (.inr 0)), (1, .inl 0), (2, .inl f), (3, .inl k)] [.inl k] σ rfl ?_
        refine sw_if_ge k_X7_sheet rfl (by omega) 33 27 (by decide) rfl (fun c10 => ?_) (fun c10 => ?_)
        · refine sw_blk k_X7_sheet 3 38 [(0, .inr (.inr 0)), (1, .inl 0), (2, .inl f), (3, .inl k)] [.inl 0, .inr (.inr 14)] σ rfl ?_
          refine sw_aald k_X7_sheet rfl (i := 14) (n := 4) (r := 15) rfl (by decide) (by decide) (by decide) rfl 39 rfl ?_
          refine sw_blk k_X7_sheet 2 41 [(0, .inr (.inr 0)), (1, .inl 0), (2, .inl f), (3, .inl k)] [.inl k, .inl f, .inr (.inr 15)] σ rfl ?_
          refine sw_callV k_X7_sheet rfl cV_X4_renew ml_X7_228 ⟨by decide, by decide⟩ 15 rfl rfl [.inl f, .inl k] [] rfl rfl (Nat.le_of_ble_eq_true rfl) 44 rfl (sp_srenew0 σ f k) (fun r11 σ12 hq13 => ?_)
          obtain ⟨rfl, rfl⟩ := hq13
          refine sw_blk k_X7_sheet 1 45 [(0, .inr (.inr 0)), (1, .inl 0), (2, .inl f), (3, .inl k)] [.inl k] (sw_fl (sw_u (sw_u (sw_u σ 15 2 f) 15 3 k) 15 1 0) 16 60 0) rfl ?_
          refine sw_ireturn k_X7_sheet rfl rfl ?_
          exact Or.inr (Or.inr (⟨by omega, rfl, rfl⟩))
        · refine sw_blk k_X7_sheet 2 29 [(0, .inr (.inr 0)), (1, .inl 0), (2, .inl f), (3, .inl k)] [.inl 5, .inr (.inr 0)] σ rfl ?_
          refine sw_callV k_X7_sheet rfl cV_X7_finding ml_X7_225 ⟨by decide, by decide⟩ 0 rfl rfl [.inl 5] [] rfl rfl (Nat.le_of_ble_eq_true rfl) 32 rfl (sp_finding σ 5) (fun r14 σ15 hq16 => ?_)
          obtain ⟨rfl, rfl⟩ := hq16
          refine sw_blk k_X7_sheet 0 32 [(0, .inr (.inr 0)), (1, .inl 0), (2, .inl f), (3, .inl k)] [.inl (-10 - 5)] (sw_u σ 0 9 5) rfl ?_
          refine sw_ireturn k_X7_sheet rfl rfl ?_
          exact Or.inr (Or.inl ⟨by omega, rfl, rfl⟩)
      · refine sw_blk k_X7_sheet 1 22 [(0, .inr (.inr 0)), (1, .inl 0), (2, .inl f), (3, .inl k)] [.inl (-2)] σ rfl ?_
        refine sw_ireturn k_X7_sheet rfl rfl ?_
        exact Or.inl ⟨by omega, rfl, rfl⟩
    · refine sw_blk k_X7_sheet 0 11 [(0, .inr (.inr 0)), (1, .inl 0), (2, .inl f), (3, .inl k)] [.inl 0] σ rfl ?_
      refine sw_if_eq k_X7_sheet rfl (by decide) 20 14 (by decide) rfl (fun _ => ?_) (fun c => absurd (by decide) c)
      refine sw_blk k_X7_sheet 1 22 [(0, .inr (.inr 0)), (1, .inl 0), (2, .inl f), (3, .inl k)] [.inl (-2)] σ rfl ?_
      refine sw_ireturn k_X7_sheet rfl rfl ?_
      exact Or.inl ⟨by omega, rfl, rfl⟩
  · exact absurd (by decide) p1
theorem cc_lose0 (σ : sw_S) (hσ : sw_gs σ) : sw_Con sw_ly sw_rho M_X7_lose [.inr (.inr 0), .inl 0] σ (fun r σ' => (¬ σ 15 1 = 0 ∧ r = some (.inl (-10 - 1)) ∧ (sw_u σ 0 9 1) = σ') ∨ (σ 15 1 = 0 ∧ r = some (.inl (σ 15 3)) ∧ (sw_u σ 15 1 1) = σ')) := by
  refine sw_con (by decide) (Nat.le_of_ble_eq_true rfl) ?_
  refine sw_blk k_X7_lose 1 1 [(0, .inr (.inr 0)), (1, .inl 0)] [.inl 0] σ rfl ?_
  refine sw_callS k_X7_lose rfl cS_X7_isSheet ml_X7_219 ⟨by decide, by decide⟩ [.inl 0] [] rfl rfl (Nat.le_of_ble_eq_true rfl) 4 rfl (sp_isSheet σ 0 (by decide)) (fun r2 σ3 hq4 => ?_)
  obtain ⟨rfl, ⟨p1, rfl⟩ | ⟨p1, rfl⟩⟩ := hq4
  · refine sw_blk k_X7_lose 0 4 [(0, .inr (.inr 0)), (1, .inl 0)] [.inl 1] σ rfl ?_
    refine sw_if_ne k_X7_lose rfl (by decide) 10 7 (by decide) rfl (fun _ => ?_) (fun c => absurd c (by decide))
    refine sw_blk k_X7_lose 3 15 [(0, .inr (.inr 0)), (1, .inl 0)] [.inl 0, .inr (.inr 14)] σ rfl ?_
    refine sw_aald k_X7_lose rfl (i := 14) (n := 4) (r := 15) rfl (by decide) (by decide) (by decide) rfl 16 rfl ?_
    refine sw_blk k_X7_lose 3 21 [(2, .inr (.inr 15)), (0, .inr (.inr 0)), (1, .inl 0)] [.inl (σ 15 1)] σ rfl ?_
    refine sw_if_eq k_X7_lose rfl (hσ 15 _) 30 24 (by decide) rfl (fun c5 => ?_) (fun c5 => ?_)
    · refine sw_blk k_X7_lose 5 39 [(2, .inr (.inr 15)), (0, .inr (.inr 0)), (1, .inl 0)] [.inl (σ 15 3)] (sw_u σ 15 1 1) rfl ?_
      refine sw_ireturn k_X7_lose rfl rfl ?_
      exact Or.inr (⟨by omega, rfl, rfl⟩)
    · refine sw_blk k_X7_lose 2 26 [(2, .inr (.inr 15)), (0, .inr (.inr 0)), (1, .inl 0)] [.inl 1, .inr (.inr 0)] σ rfl ?_
      refine sw_callV k_X7_lose rfl cV_X7_finding ml_X7_225 ⟨by decide, by decide⟩ 0 rfl rfl [.inl 1] [] rfl rfl (Nat.le_of_ble_eq_true rfl) 29 rfl (sp_finding σ 1) (fun r6 σ7 hq8 => ?_)
      obtain ⟨rfl, rfl⟩ := hq8
      refine sw_blk k_X7_lose 0 29 [(2, .inr (.inr 15)), (0, .inr (.inr 0)), (1, .inl 0)] [.inl (-10 - 1)] (sw_u σ 0 9 1) rfl ?_
      refine sw_ireturn k_X7_lose rfl rfl ?_
      exact Or.inl ⟨by omega, rfl, rfl⟩
  · exact absurd (by decide) p1
theorem cc_put0 (σ : sw_S) (hσ : sw_gs σ) (hs0 : 0 ≤ σ 15 3) (hs1 : σ 15 3 ≤ 60) (hfm : 0 ≤ σ 15 2 ∧ σ 15 2 ≤ 2) (f i v : Int) (gf : sw_g f) (gi : sw_g i) (gv : sw_g v) : sw_Con sw_ly sw_rho M_X7_put [.inr (.inr 0), .inl 0, .inl f, .inl i, .inl v] σ (fun r σ' => (¬ (0 ≤ f ∧ f ≤ 2) ∧ r = some (.inl (-2)) ∧ σ = σ') ∨ ((0 ≤ f ∧ f ≤ 2) ∧ ∃ wr : Int, (if σ 15 1 = 0 then (if σ 15 2 = f then (if 0 ≤ i ∧ i < σ 15 3 then (0 : Int) else 2) else 3) else 1) = wr ∧ ((¬ wr = 0 ∧ r = some (.inl (-10 - wr)) ∧ sw_u σ 0 9 wr = σ') ∨ (wr = 0 ∧ r = some (.inl 1) ∧ sw_u σ 16 i.toNat (sw_cv (σ 15 2) v) = σ')))) := by
  refine sw_con (by decide) (Nat.le_of_ble_eq_true rfl) ?_
  refine sw_blk k_X7_put 1 1 [(0, .inr (.inr 0)), (1, .inl 0), (2, .inl f), (3, .inl i), (4, .inl v)] [.inl 0] σ rfl ?_
  refine sw_callS k_X7_put rfl cS_X7_isSheet ml_X7_219 ⟨by decide, by decide⟩ [.inl 0] [] rfl rfl (Nat.le_of_ble_eq_true rfl) 4 rfl (sp_isSheet σ 0 (by decide)) (fun r2 σ3 hq4 => ?_)
  obtain ⟨rfl, ⟨p1, rfl⟩ | ⟨p1, rfl⟩⟩ := hq4
  · refine sw_blk k_X7_put 0 4 [(0, .inr (.inr 0)), (1, .inl 0), (2, .inl f), (3, .inl i), (4, .inl v)] [.inl 1] σ rfl ?_
    refine sw_if_eq k_X7_put rfl (by decide) 14 7 (by decide) rfl (fun c => absurd c (by decide)) (fun _ => ?_)
    refine sw_blk k_X7_put 1 8 [(0, .inr (.inr 0)), (1, .inl 0), (2, .inl f), (3, .inl i), (4, .inl v)] [.inl f] σ rfl ?_
    refine sw_callS k_X7_put rfl cS_X7_isForm ml_X7_222 ⟨by decide, by decide⟩ [.inl f] [] rfl rfl (Nat.le_of_ble_eq_true rfl) 11 rfl (sp_isForm σ f (by omega)) (fun r6 σ7 hq8 => ?_)
    obtain ⟨rfl, ⟨p5, rfl⟩ | ⟨p5, rfl⟩⟩ := hq8
    · refine sw_blk k_X7_put 0 11 [(0, .inr (.inr 0)), (1, .inl 0), (2, .inl f), (3, .inl i), (4, .inl v)] [.inl 1] σ rfl ?_
      refine sw_if_ne k_X7_put rfl (by decide) 17 14 (by decide) rfl (fun _ => ?_) (fun c => absurd c (by decide))
      refine sw_blk k_X7_put 3 22 [(0, .inr (.inr 0)), (1, .inl 0), (2, .inl f), (3, .inl i), (4, .inl v)] [.inl 0, .inr (.inr 14)] σ rfl ?_
      refine sw_aald k_X7_put rfl (i := 14) (n := 4) (r := 15) rfl (by decide) (by decide) (by decide) rfl 23 rfl ?_
      refine sw_blk k_X7_put 4 29 [(5, .inr (.inr 15)), (0, .inr (.inr 0)), (1, .inl 0), (2, .inl f), (3, .inl i), (4, .inl v)] [.inl i, .inl f, .inr (.inr 15)] σ rfl ?_
      refine sw_callS k_X7_put rfl cS_X7_wrongOfItem ml_X7_237 ⟨by decide, by decide⟩ [.inr (.inr 15), .inl f, .inl i] [] rfl rfl (Nat.le_of_ble_eq_true rfl) 32 rfl (sp_wrong0 σ hσ f i (by omega) (by omega) hs0 hs1) (fun r9 σ10 hq11 => ?_)
      obtain ⟨rfl, rfl⟩ := hq11
      generalize hwr : (if σ 15 1 = 0 then (if σ 15 2 = f then (if 0 ≤ i ∧ i < σ 15 3 then (0 : Int) else 2) else 3) else 1) = wr
      have gwr : 0 ≤ wr ∧ wr ≤ 3 := by omega
      refine sw_blk k_X7_put 2 36 [(6, .inl wr), (5, .inr (.inr 15)), (0, .inr (.inr 0)), (1, .inl 0), (2, .inl f), (3, .inl i), (4, .inl v)] [.inl wr] σ rfl ?_
      refine sw_if_eq k_X7_put rfl (by omega) 46 39 (by decide) rfl (fun c12 => ?_) (fun c12 => ?_)
      · refine sw_blk k_X7_put 3 51 [(6, .inl wr), (5, .inr (.inr 15)), (0, .inr (.inr 0)), (1, .inl 0), (2, .inl f), (3, .inl i), (4, .inl v)] [.inl v, .inl i, .inr (.inr 15)] σ rfl ?_
        refine sw_callV k_X7_put rfl cV_X4_store ml_X7_241 ⟨by decide, by decide⟩ 15 rfl rfl [.inl i, .inl v] [] rfl rfl (Nat.le_of_ble_eq_true rfl) 54 rfl (sp_store0 σ hσ i v (by omega) hfm) (fun r13 σ14 hq15 => ?_)
        obtain ⟨rfl, rfl⟩ := hq15
        refine sw_blk k_X7_put 1 55 [(6, .inl wr), (5, .inr (.inr 15)), (0, .inr (.inr 0)), (1, .inl 0), (2, .inl f), (3, .inl i), (4, .inl v)] [.inl 1] (sw_u σ 16 i.toNat (if σ 15 2 = 0 then sw_b v else if σ 15 2 = 1 then sw_h v else v)) rfl ?_
        refine sw_ireturn k_X7_put rfl rfl ?_
        exact Or.inr ⟨by omega, wr, rfl, Or.inr ⟨by omega, rfl, rfl⟩⟩
      · refine sw_blk k_X7_put 2 42 [(6, .inl wr), (5, .inr (.inr 15)), (0, .inr (.inr 0)), (1, .inl 0), (2, .inl f), (3, .inl i), (4, .inl v)] [.inl wr, .inr (.inr 0)] σ rfl ?_
        refine sw_callV k_X7_put rfl cV_X7_finding ml_X7_225 ⟨by decide, by decide⟩ 0 rfl rfl [.inl wr] [] rfl rfl (Nat.le_of_ble_eq_true rfl) 45 rfl (sp_finding σ wr) (fun r16 σ17 hq18 => ?_)
        obtain ⟨rfl, rfl⟩ := hq18
        refine sw_blk k_X7_put 0 45 [(6, .inl wr), (5, .inr (.inr 15)), (0, .inr (.inr 0)), (1, .inl 0), (2, .inl f), (3, .inl i), (4, .inl v)] [.inl (-10 - wr)] (sw_u σ 0 9 wr) rfl ?_
        refine sw_ireturn k_X7_put rfl rfl ?_
        exact Or.inr ⟨by omega, wr, rfl, Or.inl ⟨by omega, rfl, rfl⟩⟩
    · refine sw_blk k_X7_put 0 11 [(0, .inr (.inr 0)), (1, .inl 0), (2, .inl f), (3, .inl i), (4, .inl v)] [.inl 0] σ rfl ?_
      refine sw_if_ne k_X7_put rfl (by decide) 17 14 (by decide) rfl (fun c => absurd (by decide) c) (fun _ => ?_)
      refine sw_blk k_X7_put 1 16 [(0, .inr (.inr 0)), (1, .inl 0), (2, .inl f), (3, .inl i), (4, .inl v)] [.inl (-2)] σ rfl ?_
      refine sw_ireturn k_X7_put rfl rfl ?_
      exact Or.inl ⟨by omega, rfl, rfl⟩
  · exact absurd (by decide) p1
theorem cc_get0 (σ : sw_S) (hσ : sw_gs σ) (hs0 : 0 ≤ σ 15 3) (hs1 : σ 15 3 ≤ 60) (f i : Int) (gf : sw_g f) (gi : sw_g i) : sw_Con sw_ly sw_rho M_X7_get [.inr (.inr 0), .inl 0, .inl f, .inl i] σ (fun r σ' => (¬ (0 ≤ f ∧ f ≤ 2) ∧ r = some (.inl (-2147483648)) ∧ σ = σ') ∨ ((0 ≤ f ∧ f ≤ 2) ∧ ∃ wr : Int, (if σ 15 1 = 0 then (if σ 15 2 = f then (if 0 ≤ i ∧ i < σ 15 3 then (0 : Int) else 2) else 3) else 1) = wr ∧ ((¬ wr = 0 ∧ r = some (.inl (-2147483648)) ∧ sw_u σ 0 9 wr = σ') ∨ (wr = 0 ∧ r = some (.inl (σ 16 i.toNat)) ∧ σ = σ')))) := by
  refine sw_con (by decide) (Nat.le_of_ble_eq_true rfl) ?_
  refine sw_blk k_X7_get 1 1 [(0, .inr (.inr 0)), (1, .inl 0), (2, .inl f), (3, .inl i)] [.inl 0] σ rfl ?_
  refine sw_callS k_X7_get rfl cS_X7_isSheet ml_X7_219 ⟨by decide, by decide⟩ [.inl 0] [] rfl rfl (Nat.le_of_ble_eq_true rfl) 4 rfl (sp_isSheet σ 0 (by decide)) (fun r2 σ3 hq4 => ?_)
  obtain ⟨rfl, ⟨p1, rfl⟩ | ⟨p1, rfl⟩⟩ := hq4
  · refine sw_blk k_X7_get 0 4 [(0, .inr (.inr 0)), (1, .inl 0), (2, .inl f), (3, .inl i)] [.inl 1] σ rfl ?_
    refine sw_if_eq k_X7_get rfl (by decide) 14 7 (by decide) rfl (fun c => absurd c (by decide)) (fun _ => ?_)
    refine sw_blk k_X7_get 1 8 [(0, .inr (.inr 0)), (1, .inl 0), (2, .inl f), (3, .inl i)] [.inl f] σ rfl ?_
    refine sw_callS k_X7_get rfl cS_X7_isForm ml_X7_222 ⟨by decide, by decide⟩ [.inl f] [] rfl rfl (Nat.le_of_ble_eq_true rfl) 11 rfl (sp_isForm σ f (by omega)) (fun r6 σ7 hq8 => ?_)
    obtain ⟨rfl, ⟨p5, rfl⟩ | ⟨p5, rfl⟩⟩ := hq8
    · refine sw_blk k_X7_get 0 11 [(0, .inr (.inr 0)), (1, .inl 0), (2, .inl f), (3, .inl i)] [.inl 1] σ rfl ?_
      refine sw_if_ne k_X7_get rfl (by decide) 17 14 (by decide) rfl (fun _ => ?_) (fun c => absurd c (by decide))
      refine sw_blk k_X7_get 3 22 [(0, .inr (.inr 0)), (1, .inl 0), (2, .inl f), (3, .inl i)] [.inl 0, .inr (.inr 14)] σ rfl ?_
      refine sw_aald k_X7_get rfl (i := 14) (n := 4) (r := 15) rfl (by decide) (by decide) (by decide) rfl 23 rfl ?_
      refine sw_blk k_X7_get 4 29 [(4, .inr (.inr 15)), (0, .inr (.inr 0)), (1, .inl 0), (2, .inl f), (3, .inl i)] [.inl i, .inl f, .inr (.inr 15)] σ rfl ?_
      refine sw_callS k_X7_get rfl cS_X7_wrongOfItem ml_X7_237 ⟨by decide, by decide⟩ [.inr (.inr 15), .inl f, .inl i] [] rfl rfl (Nat.le_of_ble_eq_true rfl) 32 rfl (sp_wrong0 σ hσ f i (by omega) (by omega) hs0 hs1) (fun r9 σ10 hq11 => ?_)
      obtain ⟨rfl, rfl⟩ := hq11
      generalize hwr : (if σ 15 1 = 0 then (if σ 15 2 = f then (if 0 ≤ i ∧ i < σ 15 3 then (0 : Int) else 2) else 3) else 1) = wr
      have gwr : 0 ≤ wr ∧ wr ≤ 3 := by omega
      refine sw_blk k_X7_get 2 36 [(5, .inl wr), (4, .inr (.inr 15)), (0, .inr (.inr 0)), (1, .inl 0), (2, .inl f), (3, .inl i)] [.inl wr] σ rfl ?_
      refine sw_if_eq k_X7_get rfl (by omega) 48 39 (by decide) rfl (fun c12 => ?_) (fun c12 => ?_)
      · refine sw_blk k_X7_get 3 54 [(5, .inl wr), (4, .inr (.inr 15)), (0, .inr (.inr 0)), (1, .inl 0), (2, .inl f), (3, .inl i)] [.inl i, .inr (.inr 16)] σ rfl ?_
        refine sw_iald k_X7_get rfl (i := 16) (n := 60) rfl (by decide) (by omega) (by omega) 55 rfl ?_
        refine sw_blk k_X7_get 0 55 [(5, .inl wr), (4, .inr (.inr 15)), (0, .inr (.inr 0)), (1, .inl 0), (2, .inl f), (3, .inl i)] [.inl (σ 16 i.toNat)] σ rfl ?_
        refine sw_ireturn k_X7_get rfl rfl ?_
        exact Or.inr ⟨by omega, wr, rfl, Or.inr ⟨by omega, rfl, rfl⟩⟩
      · refine sw_blk k_X7_get 4 47 [(5, .inl wr), (4, .inr (.inr 15)), (0, .inr (.inr 0)), (1, .inl 0), (2, .inl f), (3, .inl i)] [.inl (-2147483648)] (sw_u σ 0 9 wr) rfl ?_
        refine sw_ireturn k_X7_get rfl rfl ?_
        exact Or.inr ⟨by omega, wr, rfl, Or.inl ⟨by omega, rfl, rfl⟩⟩
    · refine sw_blk k_X7_get 0 11 [(0, .inr (.inr 0)), (1, .inl 0), (2, .inl f), (3, .inl i)] [.inl 0] σ rfl ?_
      refine sw_if_ne k_X7_get rfl (by decide) 17 14 (by decide) rfl (fun c => absurd (by decide) c) (fun _ => ?_)
      refine sw_blk k_X7_get 1 16 [(0, .inr (.inr 0)), (1, .inl 0), (2, .inl f), (3, .inl i)] [.inl (-2147483648)] σ rfl ?_
      refine sw_ireturn k_X7_get rfl rfl ?_
      exact Or.inl ⟨by omega, rfl, rfl⟩
  · exact absurd (by decide) p1
theorem cc_read0 (σ : sw_S) (hσ : sw_gs σ) (hs0 : 0 ≤ σ 15 3) (hs1 : σ 15 3 ≤ 60) : sw_Con sw_ly sw_rho M_X7_read [.inr (.inr 0), .inl 0] σ (fun r σ' => (¬ σ 15 1 = 0 ∧ r = some (.inl (-10 - 1)) ∧ (sw_u σ 0 9 1) = σ') ∨ (σ 15 1 = 0 ∧ r = some (.inl (σ 15 3)) ∧ (sw_pf σ 13 (fun j : Nat => max 0 (min (σ 16 j) 99)) (σ 15 3).toNat) = σ')) := by
  refine sw_con (by decide) (Nat.le_of_ble_eq_true rfl) ?_
  refine sw_blk k_X7_read 1 1 [(0, .inr (.inr 0)), (1, .inl 0)] [.inl 0] σ rfl ?_
  refine sw_callS k_X7_read rfl cS_X7_isSheet ml_X7_219 ⟨by decide, by decide⟩ [.inl 0] [] rfl rfl (Nat.le_of_ble_eq_true rfl) 4 rfl (sp_isSheet σ 0 (by decide)) (fun r2 σ3 hq4 => ?_)
  obtain ⟨rfl, ⟨p1, rfl⟩ | ⟨p1, rfl⟩⟩ := hq4
  · refine sw_blk k_X7_read 0 4 [(0, .inr (.inr 0)), (1, .inl 0)] [.inl 1] σ rfl ?_
    refine sw_if_ne k_X7_read rfl (by decide) 10 7 (by decide) rfl (fun _ => ?_) (fun c => absurd c (by decide))
    refine sw_blk k_X7_read 3 15 [(0, .inr (.inr 0)), (1, .inl 0)] [.inl 0, .inr (.inr 14)] σ rfl ?_
    refine sw_aald k_X7_read rfl (i := 14) (n := 4) (r := 15) rfl (by decide) (by decide) (by decide) rfl 16 rfl ?_
    refine sw_blk k_X7_read 3 21 [(2, .inr (.inr 15)), (0, .inr (.inr 0)), (1, .inl 0)] [.inl (σ 15 1)] σ rfl ?_
    refine sw_if_eq k_X7_read rfl (hσ 15 _) 30 24 (by decide) rfl (fun c5 => ?_) (fun c5 => ?_)
    · refine sw_blk k_X7_read 6 42 [(2, .inr (.inr 15)), (0, .inr (.inr 0)), (1, .inl 0)] [.inl (σ 15 3), .inr (.inr 16), .inr (.inr 12)] σ rfl ?_
      refine sw_callV k_X7_read rfl cV_X0_take ml_X7_261 ⟨by decide, by decide⟩ 12 rfl rfl [.inr (.inr 16), .inl (σ 15 3)] [] rfl rfl (Nat.le_of_ble_eq_true rfl) 45 rfl (sp_take0 σ hσ (σ 15 3) (by omega)) (fun r6 σ7 hq8 => ?_)
      obtain ⟨rfl, rfl⟩ := hq8
      refine sw_blk k_X7_read 2 49 [(2, .inr (.inr 15)), (0, .inr (.inr 0)), (1, .inl 0)] [.inl ((sw_pf σ 13 (fun j : Nat => max 0 (min (σ 16 j) 99)) (σ 15 3).toNat) 15 3)] (sw_pf σ 13 (fun j : Nat => max 0 (min (σ 16 j) 99)) (σ 15 3).toNat) rfl ?_
      refine sw_ireturn k_X7_read rfl rfl ?_
      exact Or.inr (⟨by omega, rfl, rfl⟩)
    · refine sw_blk k_X7_read 2 26 [(2, .inr (.inr 15)), (0, .inr (.inr 0)), (1, .inl 0)] [.inl 1, .inr (.inr 0)] σ rfl ?_
      refine sw_callV k_X7_read rfl cV_X7_finding ml_X7_225 ⟨by decide, by decide⟩ 0 rfl rfl [.inl 1] [] rfl rfl (Nat.le_of_ble_eq_true rfl) 29 rfl (sp_finding σ 1) (fun r9 σ10 hq11 => ?_)
      obtain ⟨rfl, rfl⟩ := hq11
      refine sw_blk k_X7_read 0 29 [(2, .inr (.inr 15)), (0, .inr (.inr 0)), (1, .inl 0)] [.inl (-10 - 1)] (sw_u σ 0 9 1) rfl ?_
      refine sw_ireturn k_X7_read rfl rfl ?_
      exact Or.inl ⟨by omega, rfl, rfl⟩
  · exact absurd (by decide) p1
theorem cc_check0 (σ : sw_S) (hσ : sw_gs σ) (hD : 10 ≤ σ 1 0 ∧ σ 1 0 ≤ 400) (hV : 1 ≤ σ 1 1 ∧ σ 1 1 ≤ 20) (hA : 1 ≤ σ 1 2 ∧ σ 1 2 ≤ 5) (hL : ∀ x : Int, 0 ≤ x → x ≤ σ 1 0 → 1 ≤ σ 2 x.toNat ∧ σ 2 x.toNat ≤ σ 1 1) (hs0 : 0 ≤ σ 15 3) (hs1 : σ 15 3 ≤ 60) (hpl : 0 ≤ σ 5 7 ∧ σ 5 7 ≤ σ 1 0) : sw_Con sw_ly sw_rho M_X7_check [.inr (.inr 0), .inl 0] σ (fun r σ' => (¬ σ 5 9 = 0 ∧ r = some (.inl (-4)) ∧ σ = σ') ∨ ((σ 5 9 = 0 ∧ ¬ σ 15 1 = 0) ∧ r = some (.inl (-10 - 1)) ∧ sw_u σ 0 9 1 = σ') ∨ ((σ 5 9 = 0 ∧ σ 15 1 = 0) ∧ σ = σ' ∧ ∃ m : Nat, (m : Int) ≤ σ 15 3 ∧ (∀ j, j < m → sw_lw (σ 2) (σ 1 0) (σ 1 1) (σ 1 2) (σ 16) (σ 5 7) j) ∧ ((m : Int) < σ 15 3 → ¬ sw_lw (σ 2) (σ 1 0) (σ 1 1) (σ 1 2) (σ 16) (σ 5 7) m) ∧ r = some (.inl (if (m : Int) = σ 15 3 ∧ sw_abs (if σ 15 3 = 0 then 0 else σ 16 (σ 15 3 - 1).toNat) ≤ σ 1 2 then (m : Int) + 1000 else (m : Int))))) := by
  refine sw_con (by decide) (Nat.le_of_ble_eq_true rfl) ?_
  refine sw_blk k_X7_check 1 1 [(0, .inr (.inr 0)), (1, .inl 0)] [.inl 0] σ rfl ?_
  refine sw_callS k_X7_check rfl cS_X7_isSheet ml_X7_219 ⟨by decide, by decide⟩ [.inl 0] [] rfl rfl (Nat.le_of_ble_eq_true rfl) 4 rfl (sp_isSheet σ 0 (by decide)) (fun r2 σ3 hq4 => ?_)
  obtain ⟨rfl, ⟨p1, rfl⟩ | ⟨p1, rfl⟩⟩ := hq4
  · refine sw_blk k_X7_check 0 4 [(0, .inr (.inr 0)), (1, .inl 0)] [.inl 1] σ rfl ?_
    refine sw_if_ne k_X7_check rfl (by decide) 10 7 (by decide) rfl (fun _ => ?_) (fun c => absurd c (by decide))
    refine sw_blk k_X7_check 2 14 [(0, .inr (.inr 0)), (1, .inl 0)] [.inr (.inr 5)] σ rfl ?_
    refine sw_callV k_X7_check rfl cV_X6_rests ml_X7_67 ⟨by decide, by decide⟩ 5 rfl rfl [] [] rfl rfl (Nat.le_of_ble_eq_true rfl) 17 rfl (sp_rests σ  (hσ 5 _)) (fun r6 σ7 hq8 => ?_)
    obtain ⟨rfl, ⟨p5, rfl⟩ | ⟨p5, rfl⟩⟩ := hq8
    · refine sw_blk k_X7_check 0 17 [(0, .inr (.inr 0)), (1, .inl 0)] [.inl 1] σ rfl ?_
      refine sw_if_ne k_X7_check rfl (by decide) 23 20 (by decide) rfl (fun _ => ?_) (fun c => absurd c (by decide))
      refine sw_blk k_X7_check 3 28 [(0, .inr (.inr 0)), (1, .inl 0)] [.inl 0, .inr (.inr 14)] σ rfl ?_
      refine sw_aald k_X7_check rfl (i := 14) (n := 4) (r := 15) rfl (by decide) (by decide) (by decide) rfl 29 rfl ?_
      refine sw_blk k_X7_check 3 34 [(2, .inr (.inr 15)), (0, .inr (.inr 0)), (1, .inl 0)] [.inl (σ 15 1)] σ rfl ?_
      refine sw_if_eq k_X7_check rfl (hσ 15 _) 43 37 (by decide) rfl (fun c9 => ?_) (fun c9 => ?_)
      · refine sw_blk k_X7_check 9 62 [(2, .inr (.inr 15)), (0, .inr (.inr 0)), (1, .inl 0)] [.inl (σ 15 3), .inr (.inr 16), .inl (σ 5 7), .inr (.inr 1)] σ rfl ?_
        refine sw_callV k_X7_check rfl cV_X3_lawfulSpeeds ml_X7_270 ⟨by decide, by decide⟩ 1 rfl rfl [.inl (σ 5 7), .inr (.inr 16), .inl (σ 15 3)] [] rfl rfl (Nat.le_of_ble_eq_true rfl) 65 rfl (sp_lawful0 σ hσ hD hV hA hL (σ 5 7) (σ 15 3) hpl (by omega)) (fun r10 σ11 hq12 => ?_)
        obtain ⟨rfl, m, rfl, m1, m2, m3⟩ := hq12
        refine sw_blk k_X7_check 3 70 [(3, .inl (m : Int)), (2, .inr (.inr 15)), (0, .inr (.inr 0)), (1, .inl 0)] [.inl (σ 15 3)] σ rfl ?_
        refine sw_if_ne k_X7_check rfl (hσ 15 _) 77 73 (by decide) rfl (fun c13 => ?_) (fun c13 => ?_)
        · refine sw_blk k_X7_check 6 87 [(3, .inl (m : Int)), (2, .inr (.inr 15)), (0, .inr (.inr 0)), (1, .inl 0)] [.inl ((σ 15 3) - 1), .inr (.inr 16)] σ rfl ?_
          refine sw_iald k_X7_check rfl (i := 16) (n := 60) rfl (by decide) (by omega) (by omega) 88 rfl ?_
          refine sw_blk k_X7_check 4 95 [(4, .inl (σ 16 (((σ 15 3) - 1).toNat))), (3, .inl (m : Int)), (2, .inr (.inr 15)), (0, .inr (.inr 0)), (1, .inl 0)] [.inl (σ 15 3), .inl (m : Int)] σ rfl ?_
          refine sw_icmp_ne k_X7_check rfl (by omega) (hσ 15 _) 117 98 (by decide) rfl (fun c14 => ?_) (fun c14 => ?_)
          · refine sw_blk k_X7_check 3 122 [(5, .inl 0), (4, .inl (σ 16 (((σ 15 3) - 1).toNat))), (3, .inl (m : Int)), (2, .inr (.inr 15)), (0, .inr (.inr 0)), (1, .inl 0)] [.inl 0] σ rfl ?_
            refine sw_if_eq k_X7_check rfl (by decide) 133 125 (by decide) rfl (fun _ => ?_) (fun c => absurd (by decide) c)
            refine sw_blk k_X7_check 1 134 [(5, .inl 0), (4, .inl (σ 16 (((σ 15 3) - 1).toNat))), (3, .inl (m : Int)), (2, .inr (.inr 15)), (0, .inr (.inr 0)), (1, .inl 0)] [.inl (m : Int)] σ rfl ?_
            refine sw_ireturn k_X7_check rfl rfl ?_
            refine Or.inr (Or.inr ⟨by omega, rfl, m, m1, m2, m3, congrArg (fun z : Int => some (Sum.inl z)) ?_⟩)
            rw [if_neg (fun zz => ?_)]
            obtain ⟨z1, z2⟩ := zz
            first | omega | (rw [if_pos (by omega)] at z2; omega) | (rw [if_neg (by omega)] at z2; omega)
          · refine sw_blk k_X7_check 1 100 [(4, .inl (σ 16 (((σ 15 3) - 1).toNat))), (3, .inl (m : Int)), (2, .inr (.inr 15)), (0, .inr (.inr 0)), (1, .inl 0)] [.inl (σ 16 (((σ 15 3) - 1).toNat))] σ rfl ?_
            have gab : sw_g (σ 16 (((σ 15 3) - 1).toNat)) ∧ sw_g (sw_abs (σ 16 (((σ 15 3) - 1).toNat))) := by
              first
              | exact ⟨by decide, by decide⟩
              | (have hl := (m2 (σ 15 3 - 1).toNat (by omega)).2.1; constructor; exact hσ 16 _; unfold sw_abs at *; omega)
            refine sw_callS k_X7_check rfl cS_J9_abs_0f7a4 ml_X7_273 ⟨by decide, by decide⟩ [.inl (σ 16 (((σ 15 3) - 1).toNat))] [] rfl rfl (Nat.le_of_ble_eq_true rfl) 103 rfl (sp_abs σ (σ 16 (((σ 15 3) - 1).toNat)) gab.1) (fun r15 σ16 hq17 => ?_)
            obtain ⟨rfl, rfl⟩ := hq17
            refine sw_blk k_X7_check 3 110 [(4, .inl (σ 16 (((σ 15 3) - 1).toNat))), (3, .inl (m : Int)), (2, .inr (.inr 15)), (0, .inr (.inr 0)), (1, .inl 0)] [.inl (σ 1 2), .inl (sw_abs (σ 16 (((σ 15 3) - 1).toNat)))] σ rfl ?_
            refine sw_icmp_gt k_X7_check rfl gab.2 (hσ 1 _) 117 113 (by decide) rfl (fun c18 => ?_) (fun c18 => ?_)
            · refine sw_blk k_X7_check 3 122 [(5, .inl 0), (4, .inl (σ 16 (((σ 15 3) - 1).toNat))), (3, .inl (m : Int)), (2, .inr (.inr 15)), (0, .inr (.inr 0)), (1, .inl 0)] [.inl 0] σ rfl ?_
              refine sw_if_eq k_X7_check rfl (by decide) 133 125 (by decide) rfl (fun _ => ?_) (fun c => absurd (by decide) c)
              refine sw_blk k_X7_check 1 134 [(5, .inl 0), (4, .inl (σ 16 (((σ 15 3) - 1).toNat))), (3, .inl (m : Int)), (2, .inr (.inr 15)), (0, .inr (.inr 0)), (1, .inl 0)] [.inl (m : Int)] σ rfl ?_
              refine sw_ireturn k_X7_check rfl rfl ?_
              refine Or.inr (Or.inr ⟨by omega, rfl, m, m1, m2, m3, congrArg (fun z : Int => some (Sum.inl z)) ?_⟩)
              rw [if_neg (fun zz => ?_)]
              obtain ⟨z1, z2⟩ := zz
              first | omega | (rw [if_pos (by omega)] at z2; omega) | (rw [if_neg (by omega)] at z2; omega)
            · refine sw_blk k_X7_check 4 122 [(5, .inl 1), (4, .inl (σ 16 (((σ 15 3) - 1).toNat))), (3, .inl (m : Int)), (2, .inr (.inr 15)), (0, .inr (.inr 0)), (1, .inl 0)] [.inl 1] σ rfl ?_
              refine sw_if_eq k_X7_check rfl (by decide) 133 125 (by decide) rfl (fun c => absurd c (by decide)) (fun _ => ?_)
              refine sw_blk k_X7_check 4 134 [(5, .inl 1), (4, .inl (σ 16 (((σ 15 3) - 1).toNat))), (3, .inl (m : Int)), (2, .inr (.inr 15)), (0, .inr (.inr 0)), (1, .inl 0)] [.inl ((m : Int) + 1000)] σ rfl ?_
              refine sw_ireturn k_X7_check rfl rfl ?_
              refine Or.inr (Or.inr ⟨by omega, rfl, m, m1, m2, m3, congrArg (fun z : Int => some (Sum.inl z)) ?_⟩)
              rw [if_pos ⟨by omega, by first | (rw [if_pos (by omega)]; omega) | (rw [if_neg (by omega)]; omega)⟩]
        · refine sw_blk k_X7_check 6 95 [(4, .inl 0), (3, .inl (m : Int)), (2, .inr (.inr 15)), (0, .inr (.inr 0)), (1, .inl 0)] [.inl (σ 15 3), .inl (m : Int)] σ rfl ?_
          refine sw_icmp_ne k_X7_check rfl (by omega) (hσ 15 _) 117 98 (by decide) rfl (fun c19 => ?_) (fun c19 => ?_)
          · refine sw_blk k_X7_check 3 122 [(5, .inl 0), (4, .inl 0), (3, .inl (m : Int)), (2, .inr (.inr 15)), (0, .inr (.inr 0)), (1, .inl 0)] [.inl 0] σ rfl ?_
            refine sw_if_eq k_X7_check rfl (by decide) 133 125 (by decide) rfl (fun _ => ?_) (fun c => absurd (by decide) c)
            refine sw_blk k_X7_check 1 134 [(5, .inl 0), (4, .inl 0), (3, .inl (m : Int)), (2, .inr (.inr 15)), (0, .inr (.inr 0)), (1, .inl 0)] [.inl (m : Int)] σ rfl ?_
            refine sw_ireturn k_X7_check rfl rfl ?_
            refine Or.inr (Or.inr ⟨by omega, rfl, m, m1, m2, m3, congrArg (fun z : Int => some (Sum.inl z)) ?_⟩)
            rw [if_neg (fun zz => ?_)]
            obtain ⟨z1, z2⟩ := zz
            first | omega | (rw [if_pos (by omega)] at z2; omega) | (rw [if_neg (by omega)] at z2; omega)
          · refine sw_blk k_X7_check 1 100 [(4, .inl 0), (3, .inl (m : Int)), (2, .inr (.inr 15)), (0, .inr (.inr 0)), (1, .inl 0)] [.inl 0] σ rfl ?_
            have gab : sw_g 0 ∧ sw_g (sw_abs 0) := by
              first
              | exact ⟨by decide, by decide⟩
              | (have hl := (m2 (σ 15 3 - 1).toNat (by omega)).2.1; constructor; exact hσ 16 _; unfold sw_abs at *; omega)
            refine sw_callS k_X7_check rfl cS_J9_abs_0f7a4 ml_X7_273 ⟨by decide, by decide⟩ [.inl 0] [] rfl rfl (Nat.le_of_ble_eq_true rfl) 103 rfl (sp_abs σ 0 gab.1) (fun r20 σ21 hq22 => ?_)
            obtain ⟨rfl, rfl⟩ := hq22
            refine sw_blk k_X7_check 3 110 [(4, .inl 0), (3, .inl (m : Int)), (2, .inr (.inr 15)), (0, .inr (.inr 0)), (1, .inl 0)] [.inl (σ 1 2), .inl (sw_abs 0)] σ rfl ?_
            refine sw_icmp_gt k_X7_check rfl gab.2 (hσ 1 _) 117 113 (by decide) rfl (fun c23 => ?_) (fun c23 => ?_)
            · refine sw_blk k_X7_check 3 122 [(5, .inl 0), (4, .inl 0), (3, .inl (m : Int)), (2, .inr (.inr 15)), (0, .inr (.inr 0)), (1, .inl 0)] [.inl 0] σ rfl ?_
              refine sw_if_eq k_X7_check rfl (by decide) 133 125 (by decide) rfl (fun _ => ?_) (fun c => absurd (by decide) c)
              refine sw_blk k_X7_check 1 134 [(5, .inl 0), (4, .inl 0), (3, .inl (m : Int)), (2, .inr (.inr 15)), (0, .inr (.inr 0)), (1, .inl 0)] [.inl (m : Int)] σ rfl ?_
              refine sw_ireturn k_X7_check rfl rfl ?_
              refine Or.inr (Or.inr ⟨by omega, rfl, m, m1, m2, m3, congrArg (fun z : Int => some (Sum.inl z)) ?_⟩)
              rw [if_neg (fun zz => ?_)]
              obtain ⟨z1, z2⟩ := zz
              first | omega | (rw [if_pos (by omega)] at z2; omega) | (rw [if_neg (by omega)] at z2; omega)
            · refine sw_blk k_X7_check 4 122 [(5, .inl 1), (4, .inl 0), (3, .inl (m : Int)), (2, .inr (.inr 15)), (0, .inr (.inr 0)), (1, .inl 0)] [.inl 1] σ rfl ?_
              refine sw_if_eq k_X7_check rfl (by decide) 133 125 (by decide) rfl (fun c => absurd c (by decide)) (fun _ => ?_)
              refine sw_blk k_X7_check 4 134 [(5, .inl 1), (4, .inl 0), (3, .inl (m : Int)), (2, .inr (.inr 15)), (0, .inr (.inr 0)), (1, .inl 0)] [.inl ((m : Int) + 1000)] σ rfl ?_
              refine sw_ireturn k_X7_check rfl rfl ?_
              refine Or.inr (Or.inr ⟨by omega, rfl, m, m1, m2, m3, congrArg (fun z : Int => some (Sum.inl z)) ?_⟩)
              rw [if_pos ⟨by omega, by first | (rw [if_pos (by omega)]; omega) | (rw [if_neg (by omega)]; omega)⟩]
      · refine sw_blk k_X7_check 2 39 [(2, .inr (.inr 15)), (0, .inr (.inr 0)), (1, .inl 0)] [.inl 1, .inr (.inr 0)] σ rfl ?_
        refine sw_callV k_X7_check rfl cV_X7_finding ml_X7_225 ⟨by decide, by decide⟩ 0 rfl rfl [.inl 1] [] rfl rfl (Nat.le_of_ble_eq_true rfl) 42 rfl (sp_finding σ 1) (fun r24 σ25 hq26 => ?_)
        obtain ⟨rfl, rfl⟩ := hq26
        refine sw_blk k_X7_check 0 42 [(2, .inr (.inr 15)), (0, .inr (.inr 0)), (1, .inl 0)] [.inl (-10 - 1)] (sw_u σ 0 9 1) rfl ?_
        refine sw_ireturn k_X7_check rfl rfl ?_
        exact Or.inr (Or.inl ⟨by omega, rfl, rfl⟩)
    · refine sw_blk k_X7_check 0 17 [(0, .inr (.inr 0)), (1, .inl 0)] [.inl 0] σ rfl ?_
      refine sw_if_ne k_X7_check rfl (by decide) 23 20 (by decide) rfl (fun c => absurd (by decide) c) (fun _ => ?_)
      refine sw_blk k_X7_check 1 22 [(0, .inr (.inr 0)), (1, .inl 0)] [.inl (-4)] σ rfl ?_
      refine sw_ireturn k_X7_check rfl rfl ?_
      exact Or.inl ⟨by omega, rfl, rfl⟩
  · exact absurd (by decide) p1
theorem cc_sheet1 (σ : sw_S) (f k : Int) (gf : sw_g f) (gk : sw_g k) : sw_Con sw_ly sw_rho M_X7_sheet [.inr (.inr 0), .inl 1, .inl f, .inl k] σ (fun r σ' => (¬ ((0 ≤ f ∧ f ≤ 2) ∧ k ≤ 60) ∧ r = some (.inl (-2)) ∧ σ = σ') ∨ ((((0 ≤ f ∧ f ≤ 2) ∧ k ≤ 60) ∧ k < 0) ∧ r = some (.inl (-10 - 5)) ∧ (sw_u σ 0 9 5) = σ') ∨ ((((0 ≤ f ∧ f ≤ 2) ∧ k ≤ 60) ∧ 0 ≤ k) ∧ r = some (.inl (k)) ∧ (sw_fl (sw_u (sw_u (sw_u σ 17 2 f) 17 3 k) 17 1 0) 18 60 0) = σ')) := by
  refine sw_con (by decide) (Nat.le_of_ble_eq_true rfl) ?_
  refine sw_blk k_X7_sheet 1 1 [(0, .inr (.inr 0)), (1, .inl 1), (2, .inl f), (3, .inl k)] [.inl 1] σ rfl ?_
  refine sw_callS k_X7_sheet rfl cS_X7_isSheet ml_X7_219 ⟨by decide, by decide⟩ [.inl 1] [] rfl rfl (Nat.le_of_ble_eq_true rfl) 4 rfl (sp_isSheet σ 1 (by decide)) (fun r2 σ3 hq4 => ?_)
  obtain ⟨rfl, ⟨p1, rfl⟩ | ⟨p1, rfl⟩⟩ := hq4
  · refine sw_blk k_X7_sheet 0 4 [(0, .inr (.inr 0)), (1, .inl 1), (2, .inl f), (3, .inl k)] [.inl 1] σ rfl ?_
    refine sw_if_eq k_X7_sheet rfl (by decide) 20 7 (by decide) rfl (fun c => absurd c (by decide)) (fun _ => ?_)
    refine sw_blk k_X7_sheet 1 8 [(0, .inr (.inr 0)), (1, .inl 1), (2, .inl f), (3, .inl k)] [.inl f] σ rfl ?_
    refine sw_callS k_X7_sheet rfl cS_X7_isForm ml_X7_222 ⟨by decide, by decide⟩ [.inl f] [] rfl rfl (Nat.le_of_ble_eq_true rfl) 11 rfl (sp_isForm σ f (by omega)) (fun r6 σ7 hq8 => ?_)
    obtain ⟨rfl, ⟨p5, rfl⟩ | ⟨p5, rfl⟩⟩ := hq8
    · refine sw_blk k_X7_sheet 0 11 [(0, .inr (.inr 0)), (1, .inl 1), (2, .inl f), (3, .inl k)] [.inl 1] σ rfl ?_
      refine sw_if_eq k_X7_sheet rfl (by decide) 20 14 (by decide) rfl (fun c => absurd c (by decide)) (fun _ => ?_)
      refine sw_blk k_X7_sheet 2 17 [(0, .inr (.inr 0)), (1, .inl 1), (2, .inl f), (3, .inl k)] [.inl 60, .inl k] σ rfl ?_
      refine sw_icmp_le k_X7_sheet rfl (by omega) (by decide) 23 20 (by decide) rfl (fun c9 => ?_) (fun c9 => ?_)
      · refine sw_blk k_X7_sheet 1 24 [(0, .inr (.inr 0)), (1, .inl 1), (2, .inl f), (3, .inl k)] [.inl k] σ rfl ?_
        refine sw_if_ge k_X7_sheet rfl (by omega) 33 27 (by decide) rfl (fun c10 => ?_) (fun c10 => ?_)
        · refine sw_blk k_X7_sheet 3 38 [(0, .inr (.inr 0)), (1, .inl 1), (2, .inl f), (3, .inl k)] [.inl 1, .inr (.inr 14)] σ rfl ?_
          refine sw_aald k_X7_sheet rfl (i := 14) (n := 4) (r := 17) rfl (by decide) (by decide) (by decide) rfl 39 rfl ?_
          refine sw_blk k_X7_sheet 2 41 [(0, .inr (.inr 0)), (1, .inl 1), (2, .inl f), (3, .inl k)] [.inl k, .inl f, .inr (.inr 17)] σ rfl ?_
          refine sw_callV k_X7_sheet rfl cV_X4_renew ml_X7_228 ⟨by decide, by decide⟩ 17 rfl rfl [.inl f, .inl k] [] rfl rfl (Nat.le_of_ble_eq_true rfl) 44 rfl (sp_srenew1 σ f k) (fun r11 σ12 hq13 => ?_)
          obtain ⟨rfl, rfl⟩ := hq13
          refine sw_blk k_X7_sheet 1 45 [(0, .inr (.inr 0)), (1, .inl 1), (2, .inl f), (3, .inl k)] [.inl k] (sw_fl (sw_u (sw_u (sw_u σ 17 2 f) 17 3 k) 17 1 0) 18 60 0) rfl ?_
          refine sw_ireturn k_X7_sheet rfl rfl ?_
          exact Or.inr (Or.inr (⟨by omega, rfl, rfl⟩))
        · refine sw_blk k_X7_sheet 2 29 [(0, .inr (.inr 0)), (1, .inl 1), (2, .inl f), (3, .inl k)] [.inl 5, .inr (.inr 0)] σ rfl ?_
          refine sw_callV k_X7_sheet rfl cV_X7_finding ml_X7_225 ⟨by decide, by decide⟩ 0 rfl rfl [.inl 5] [] rfl rfl (Nat.le_of_ble_eq_true rfl) 32 rfl (sp_finding σ 5) (fun r14 σ15 hq16 => ?_)
          obtain ⟨rfl, rfl⟩ := hq16
          refine sw_blk k_X7_sheet 0 32 [(0, .inr (.inr 0)), (1, .inl 1), (2, .inl f), (3, .inl k)] [.inl (-10 - 5)] (sw_u σ 0 9 5) rfl ?_
          refine sw_ireturn k_X7_sheet rfl rfl ?_
          exact Or.inr (Or.inl ⟨by omega, rfl, rfl⟩)
      · refine sw_blk k_X7_sheet 1 22 [(0, .inr (.inr 0)), (1, .inl 1), (2, .inl f), (3, .inl k)] [.inl (-2)] σ rfl ?_
        refine sw_ireturn k_X7_sheet rfl rfl ?_
        exact Or.inl ⟨by omega, rfl, rfl⟩
    · refine sw_blk k_X7_sheet 0 11 [(0, .inr (.inr 0)), (1, .inl 1), (2, .inl f), (3, .inl k)] [.inl 0] σ rfl ?_
      refine sw_if_eq k_X7_sheet rfl (by decide) 20 14 (by decide) rfl (fun _ => ?_) (fun c => absurd (by decide) c)
      refine sw_blk k_X7_sheet 1 22 [(0, .inr (.inr 0)), (1, .inl 1), (2, .inl f), (3, .inl k)] [.inl (-2)] σ rfl ?_
      refine sw_ireturn k_X7_sheet rfl rfl ?_
      exact Or.inl ⟨by omega, rfl, rfl⟩
  · exact absurd (by decide) p1
theorem cc_lose1 (σ : sw_S) (hσ : sw_gs σ) : sw_Con sw_ly sw_rho M_X7_lose [.inr (.inr 0), .inl 1] σ (fun r σ' => (¬ σ 17 1 = 0 ∧ r = some (.inl (-10 - 1)) ∧ (sw_u σ 0 9 1) = σ') ∨ (σ 17 1 = 0 ∧ r = some (.inl (σ 17 3)) ∧ (sw_u σ 17 1 1) = σ')) := by
  refine sw_con (by decide) (Nat.le_of_ble_eq_true rfl) ?_
  refine sw_blk k_X7_lose 1 1 [(0, .inr (.inr 0)), (1, .inl 1)] [.inl 1] σ rfl ?_
  refine sw_callS k_X7_lose rfl cS_X7_isSheet ml_X7_219 ⟨by decide, by decide⟩ [.inl 1] [] rfl rfl (Nat.le_of_ble_eq_true rfl) 4 rfl (sp_isSheet σ 1 (by decide)) (fun r2 σ3 hq4 => ?_)
  obtain ⟨rfl, ⟨p1, rfl⟩ | ⟨p1, rfl⟩⟩ := hq4
  · refine sw_blk k_X7_lose 0 4 [(0, .inr (.inr 0)), (1, .inl 1)] [.inl 1] σ rfl ?_
    refine sw_if_ne k_X7_lose rfl (by decide) 10 7 (by decide) rfl (fun _ => ?_) (fun c => absurd c (by decide))
    refine sw_blk k_X7_lose 3 15 [(0, .inr (.inr 0)), (1, .inl 1)] [.inl 1, .inr (.inr 14)] σ rfl ?_
    refine sw_aald k_X7_lose rfl (i := 14) (n := 4) (r := 17) rfl (by decide) (by decide) (by decide) rfl 16 rfl ?_
    refine sw_blk k_X7_lose 3 21 [(2, .inr (.inr 17)), (0, .inr (.inr 0)), (1, .inl 1)] [.inl (σ 17 1)] σ rfl ?_
    refine sw_if_eq k_X7_lose rfl (hσ 17 _) 30 24 (by decide) rfl (fun c5 => ?_) (fun c5 => ?_)
    · refine sw_blk k_X7_lose 5 39 [(2, .inr (.inr 17)), (0, .inr (.inr 0)), (1, .inl 1)] [.inl (σ 17 3)] (sw_u σ 17 1 1) rfl ?_
      refine sw_ireturn k_X7_lose rfl rfl ?_
      exact Or.inr (⟨by omega, rfl, rfl⟩)
    · refine sw_blk k_X7_lose 2 26 [(2, .inr (.inr 17)), (0, .inr (.inr 0)), (1, .inl 1)] [.inl 1, .inr (.inr 0)] σ rfl ?_
      refine sw_callV k_X7_lose rfl cV_X7_finding ml_X7_225 ⟨by decide, by decide⟩ 0 rfl rfl [.inl 1] [] rfl rfl (Nat.le_of_ble_eq_true rfl) 29 rfl (sp_finding σ 1) (fun r6 σ7 hq8 => ?_)
      obtain ⟨rfl, rfl⟩ := hq8
      refine sw_blk k_X7_lose 0 29 [(2, .inr (.inr 17)), (0, .inr (.inr 0)), (1, .inl 1)] [.inl (-10 - 1)] (sw_u σ 0 9 1) rfl ?_
      refine sw_ireturn k_X7_lose rfl rfl ?_
      exact Or.inl ⟨by omega, rfl, rfl⟩
  · exact absurd (by decide) p1
theorem cc_put1 (σ : sw_S) (hσ : sw_gs σ) (hs0 : 0 ≤ σ 17 3) (hs1 : σ 17 3 ≤ 60) (hfm : 0 ≤ σ 17 2 ∧ σ 17 2 ≤ 2) (f i v : Int) (gf : sw_g f) (gi : sw_g i) (gv : sw_g v) : sw_Con sw_ly sw_rho M_X7_put [.inr (.inr 0), .inl 1, .inl f, .inl i, .inl v] σ (fun r σ' => (¬ (0 ≤ f ∧ f ≤ 2) ∧ r = some (.inl (-2)) ∧ σ = σ') ∨ ((0 ≤ f ∧ f ≤ 2) ∧ ∃ wr : Int, (if σ 17 1 = 0 then (if σ 17 2 = f then (if 0 ≤ i ∧ i < σ 17 3 then (0 : Int) else 2) else 3) else 1) = wr ∧ ((¬ wr = 0 ∧ r = some (.inl (-10 - wr)) ∧ sw_u σ 0 9 wr = σ') ∨ (wr = 0 ∧ r = some (.inl 1) ∧ sw_u σ 18 i.toNat (sw_cv (σ 17 2) v) = σ')))) := by
  refine sw_con (by decide) (Nat.le_of_ble_eq_true rfl) ?_
  refine sw_blk k_X7_put 1 1 [(0, .inr (.inr 0)), (1, .inl 1), (2, .inl f), (3, .inl i), (4, .inl v)] [.inl 1] σ rfl ?_
  refine sw_callS k_X7_put rfl cS_X7_isSheet ml_X7_219 ⟨by decide, by decide⟩ [.inl 1] [] rfl rfl (Nat.le_of_ble_eq_true rfl) 4 rfl (sp_isSheet σ 1 (by decide)) (fun r2 σ3 hq4 => ?_)
  obtain ⟨rfl, ⟨p1, rfl⟩ | ⟨p1, rfl⟩⟩ := hq4
  · refine sw_blk k_X7_put 0 4 [(0, .inr (.inr 0)), (1, .inl 1), (2, .inl f), (3, .inl i), (4, .inl v)] [.inl 1] σ rfl ?_
    refine sw_if_eq k_X7_put rfl (by decide) 14 7 (by decide) rfl (fun c => absurd c (by decide)) (fun _ => ?_)
    refine sw_blk k_X7_put 1 8 [(0, .inr (.inr 0)), (1, .inl 1), (2, .inl f), (3, .inl i), (4, .inl v)] [.inl f] σ rfl ?_
    refine sw_callS k_X7_put rfl cS_X7_isForm ml_X7_222 ⟨by decide, by decide⟩ [.inl f] [] rfl rfl (Nat.le_of_ble_eq_true rfl) 11 rfl (sp_isForm σ f (by omega)) (fun r6 σ7 hq8 => ?_)
    obtain ⟨rfl, ⟨p5, rfl⟩ | ⟨p5, rfl⟩⟩ := hq8
    · refine sw_blk k_X7_put 0 11 [(0, .inr (.inr 0)), (1, .inl 1), (2, .inl f), (3, .inl i), (4, .inl v)] [.inl 1] σ rfl ?_
      refine sw_if_ne k_X7_put rfl (by decide) 17 14 (by decide) rfl (fun _ => ?_) (fun c => absurd c (by decide))
      refine sw_blk k_X7_put 3 22 [(0, .inr (.inr 0)), (1, .inl 1), (2, .inl f), (3, .inl i), (4, .inl v)] [.inl 1, .inr (.inr 14)] σ rfl ?_
      refine sw_aald k_X7_put rfl (i := 14) (n := 4) (r := 17) rfl (by decide) (by decide) (by decide) rfl 23 rfl ?_
      refine sw_blk k_X7_put 4 29 [(5, .inr (.inr 17)), (0, .inr (.inr 0)), (1, .inl 1), (2, .inl f), (3, .inl i), (4, .inl v)] [.inl i, .inl f, .inr (.inr 17)] σ rfl ?_
      refine sw_callS k_X7_put rfl cS_X7_wrongOfItem ml_X7_237 ⟨by decide, by decide⟩ [.inr (.inr 17), .inl f, .inl i] [] rfl rfl (Nat.le_of_ble_eq_true rfl) 32 rfl (sp_wrong1 σ hσ f i (by omega) (by omega) hs0 hs1) (fun r9 σ10 hq11 => ?_)
      obtain ⟨rfl, rfl⟩ := hq11
      generalize hwr : (if σ 17 1 = 0 then (if σ 17 2 = f then (if 0 ≤ i ∧ i < σ 17 3 then (0 : Int) else 2) else 3) else 1) = wr
      have gwr : 0 ≤ wr ∧ wr ≤ 3 := by omega
      refine sw_blk k_X7_put 2 36 [(6, .inl wr), (5, .inr (.inr 17)), (0, .inr (.inr 0)), (1, .inl 1), (2, .inl f), (3, .inl i), (4, .inl v)] [.inl wr] σ rfl ?_
      refine sw_if_eq k_X7_put rfl (by omega) 46 39 (by decide) rfl (fun c12 => ?_) (fun c12 => ?_)
      · refine sw_blk k_X7_put 3 51 [(6, .inl wr), (5, .inr (.inr 17)), (0, .inr (.inr 0)), (1, .inl 1), (2, .inl f), (3, .inl i), (4, .inl v)] [.inl v, .inl i, .inr (.inr 17)] σ rfl ?_
        refine sw_callV k_X7_put rfl cV_X4_store ml_X7_241 ⟨by decide, by decide⟩ 17 rfl rfl [.inl i, .inl v] [] rfl rfl (Nat.le_of_ble_eq_true rfl) 54 rfl (sp_store1 σ hσ i v (by omega) hfm) (fun r13 σ14 hq15 => ?_)
        obtain ⟨rfl, rfl⟩ := hq15
        refine sw_blk k_X7_put 1 55 [(6, .inl wr), (5, .inr (.inr 17)), (0, .inr (.inr 0)), (1, .inl 1), (2, .inl f), (3, .inl i), (4, .inl v)] [.inl 1] (sw_u σ 18 i.toNat (if σ 17 2 = 0 then sw_b v else if σ 17 2 = 1 then sw_h v else v)) rfl ?_
        refine sw_ireturn k_X7_put rfl rfl ?_
        exact Or.inr ⟨by omega, wr, rfl, Or.inr ⟨by omega, rfl, rfl⟩⟩
      · refine sw_blk k_X7_put 2 42 [(6, .inl wr), (5, .inr (.inr 17)), (0, .inr (.inr 0)), (1, .inl 1), (2, .inl f), (3, .inl i), (4, .inl v)] [.inl wr, .inr (.inr 0)] σ rfl ?_
        refine sw_callV k_X7_put rfl cV_X7_finding ml_X7_225 ⟨by decide, by decide⟩ 0 rfl rfl [.inl wr] [] rfl rfl (Nat.le_of_ble_eq_true rfl) 45 rfl (sp_finding σ wr) (fun r16 σ17 hq18 => ?_)
        obtain ⟨rfl, rfl⟩ := hq18
        refine sw_blk k_X7_put 0 45 [(6, .inl wr), (5, .inr (.inr 17)), (0, .inr (.inr 0)), (1, .inl 1), (2, .inl f), (3, .inl i), (4, .inl v)] [.inl (-10 - wr)] (sw_u σ 0 9 wr) rfl ?_
        refine sw_ireturn k_X7_put rfl rfl ?_
        exact Or.inr ⟨by omega, wr, rfl, Or.inl ⟨by omega, rfl, rfl⟩⟩
    · refine sw_blk k_X7_put 0 11 [(0, .inr (.inr 0)), (1, .inl 1), (2, .inl f), (3, .inl i), (4, .inl v)] [.inl 0] σ rfl ?_
      refine sw_if_ne k_X7_put rfl (by decide) 17 14 (by decide) rfl (fun c => absurd (by decide) c) (fun _ => ?_)
      refine sw_blk k_X7_put 1 16 [(0, .inr (.inr 0)), (1, .inl 1), (2, .inl f), (3, .inl i), (4, .inl v)] [.inl (-2)] σ rfl ?_
      refine sw_ireturn k_X7_put rfl rfl ?_
      exact Or.inl ⟨by omega, rfl, rfl⟩
  · exact absurd (by decide) p1
theorem cc_get1 (σ : sw_S) (hσ : sw_gs σ) (hs0 : 0 ≤ σ 17 3) (hs1 : σ 17 3 ≤ 60) (f i : Int) (gf : sw_g f) (gi : sw_g i) : sw_Con sw_ly sw_rho M_X7_get [.inr (.inr 0), .inl 1, .inl f, .inl i] σ (fun r σ' => (¬ (0 ≤ f ∧ f ≤ 2) ∧ r = some (.inl (-2147483648)) ∧ σ = σ') ∨ ((0 ≤ f ∧ f ≤ 2) ∧ ∃ wr : Int, (if σ 17 1 = 0 then (if σ 17 2 = f then (if 0 ≤ i ∧ i < σ 17 3 then (0 : Int) else 2) else 3) else 1) = wr ∧ ((¬ wr = 0 ∧ r = some (.inl (-2147483648)) ∧ sw_u σ 0 9 wr = σ') ∨ (wr = 0 ∧ r = some (.inl (σ 18 i.toNat)) ∧ σ = σ')))) := by
  refine sw_con (by decide) (Nat.le_of_ble_eq_true rfl) ?_
  refine sw_blk k_X7_get 1 1 [(0, .inr (.inr 0)), (1, .inl 1), (2, .inl f), (3, .inl i)] [.inl 1] σ rfl ?_
  refine sw_callS k_X7_get rfl cS_X7_isSheet ml_X7_219 ⟨by decide, by decide⟩ [.inl 1] [] rfl rfl (Nat.le_of_ble_eq_true rfl) 4 rfl (sp_isSheet σ 1 (by decide)) (fun r2 σ3 hq4 => ?_)
  obtain ⟨rfl, ⟨p1, rfl⟩ | ⟨p1, rfl⟩⟩ := hq4
  · refine sw_blk k_X7_get 0 4 [(0, .inr (.inr 0)), (1, .inl 1), (2, .inl f), (3, .inl i)] [.inl 1] σ rfl ?_
    refine sw_if_eq k_X7_get rfl (by decide) 14 7 (by decide) rfl (fun c => absurd c (by decide)) (fun _ => ?_)
    refine sw_blk k_X7_get 1 8 [(0, .inr (.inr 0)), (1, .inl 1), (2, .inl f), (3, .inl i)] [.inl f] σ rfl ?_
    refine sw_callS k_X7_get rfl cS_X7_isForm ml_X7_222 ⟨by decide, by decide⟩ [.inl f] [] rfl rfl (Nat.le_of_ble_eq_true rfl) 11 rfl (sp_isForm σ f (by omega)) (fun r6 σ7 hq8 => ?_)
    obtain ⟨rfl, ⟨p5, rfl⟩ | ⟨p5, rfl⟩⟩ := hq8
    · refine sw_blk k_X7_get 0 11 [(0, .inr (.inr 0)), (1, .inl 1), (2, .inl f), (3, .inl i)] [.inl 1] σ rfl ?_
      refine sw_if_ne k_X7_get rfl (by decide) 17 14 (by decide) rfl (fun _ => ?_) (fun c => absurd c (by decide))
      refine sw_blk k_X7_get 3 22 [(0, .inr (.inr 0)), (1, .inl 1), (2, .inl f), (3, .inl i)] [.inl 1, .inr (.inr 14)] σ rfl ?_
      refine sw_aald k_X7_get rfl (i := 14) (n := 4) (r := 17) rfl (by decide) (by decide) (by decide) rfl 23 rfl ?_
      refine sw_blk k_X7_get 4 29 [(4, .inr (.inr 17)), (0, .inr (.inr 0)), (1, .inl 1), (2, .inl f), (3, .inl i)] [.inl i, .inl f, .inr (.inr 17)] σ rfl ?_
      refine sw_callS k_X7_get rfl cS_X7_wrongOfItem ml_X7_237 ⟨by decide, by decide⟩ [.inr (.inr 17), .inl f, .inl i] [] rfl rfl (Nat.le_of_ble_eq_true rfl) 32 rfl (sp_wrong1 σ hσ f i (by omega) (by omega) hs0 hs1) (fun r9 σ10 hq11 => ?_)
      obtain ⟨rfl, rfl⟩ := hq11
      generalize hwr : (if σ 17 1 = 0 then (if σ 17 2 = f then (if 0 ≤ i ∧ i < σ 17 3 then (0 : Int) else 2) else 3) else 1) = wr
      have gwr : 0 ≤ wr ∧ wr ≤ 3 := by omega
      refine sw_blk k_X7_get 2 36 [(5, .inl wr), (4, .inr (.inr 17)), (0, .inr (.inr 0)), (1, .inl 1), (2, .inl f), (3, .inl i)] [.inl wr] σ rfl ?_
      refine sw_if_eq k_X7_get rfl (by omega) 48 39 (by decide) rfl (fun c12 => ?_) (fun c12 => ?_)
      · refine sw_blk k_X7_get 3 54 [(5, .inl wr), (4, .inr (.inr 17)), (0, .inr (.inr 0)), (1, .inl 1), (2, .inl f), (3, .inl i)] [.inl i, .inr (.inr 18)] σ rfl ?_
        refine sw_iald k_X7_get rfl (i := 18) (n := 60) rfl (by decide) (by omega) (by omega) 55 rfl ?_
        refine sw_blk k_X7_get 0 55 [(5, .inl wr), (4, .inr (.inr 17)), (0, .inr (.inr 0)), (1, .inl 1), (2, .inl f), (3, .inl i)] [.inl (σ 18 i.toNat)] σ rfl ?_
        refine sw_ireturn k_X7_get rfl rfl ?_
        exact Or.inr ⟨by omega, wr, rfl, Or.inr ⟨by omega, rfl, rfl⟩⟩
      · refine sw_blk k_X7_get 4 47 [(5, .inl wr), (4, .inr (.inr 17)), (0, .inr (.inr 0)), (1, .inl 1), (2, .inl f), (3, .inl i)] [.inl (-2147483648)] (sw_u σ 0 9 wr) rfl ?_
        refine sw_ireturn k_X7_get rfl rfl ?_
        exact Or.inr ⟨by omega, wr, rfl, Or.inl ⟨by omega, rfl, rfl⟩⟩
    · refine sw_blk k_X7_get 0 11 [(0, .inr (.inr 0)), (1, .inl 1), (2, .inl f), (3, .inl i)] [.inl 0] σ rfl ?_
      refine sw_if_ne k_X7_get rfl (by decide) 17 14 (by decide) rfl (fun c => absurd (by decide) c) (fun _ => ?_)
      refine sw_blk k_X7_get 1 16 [(0, .inr (.inr 0)), (1, .inl 1), (2, .inl f), (3, .inl i)] [.inl (-2147483648)] σ rfl ?_
      refine sw_ireturn k_X7_get rfl rfl ?_
      exact Or.inl ⟨by omega, rfl, rfl⟩
  · exact absurd (by decide) p1
theorem cc_read1 (σ : sw_S) (hσ : sw_gs σ) (hs0 : 0 ≤ σ 17 3) (hs1 : σ 17 3 ≤ 60) : sw_Con sw_ly sw_rho M_X7_read [.inr (.inr 0), .inl 1] σ (fun r σ' => (¬ σ 17 1 = 0 ∧ r = some (.inl (-10 - 1)) ∧ (sw_u σ 0 9 1) = σ') ∨ (σ 17 1 = 0 ∧ r = some (.inl (σ 17 3)) ∧ (sw_pf σ 13 (fun j : Nat => max 0 (min (σ 18 j) 99)) (σ 17 3).toNat) = σ')) := by
  refine sw_con (by decide) (Nat.le_of_ble_eq_true rfl) ?_
  refine sw_blk k_X7_read 1 1 [(0, .inr (.inr 0)), (1, .inl 1)] [.inl 1] σ rfl ?_
  refine sw_callS k_X7_read rfl cS_X7_isSheet ml_X7_219 ⟨by decide, by decide⟩ [.inl 1] [] rfl rfl (Nat.le_of_ble_eq_true rfl) 4 rfl (sp_isSheet σ 1 (by decide)) (fun r2 σ3 hq4 => ?_)
  obtain ⟨rfl, ⟨p1, rfl⟩ | ⟨p1, rfl⟩⟩ := hq4
  · refine sw_blk k_X7_read 0 4 [(0, .inr (.inr 0)), (1, .inl 1)] [.inl 1] σ rfl ?_
    refine sw_if_ne k_X7_read rfl (by decide) 10 7 (by decide) rfl (fun _ => ?_) (fun c => absurd c (by decide))
    refine sw_blk k_X7_read 3 15 [(0, .inr (.inr 0)), (1, .inl 1)] [.inl 1, .inr (.inr 14)] σ rfl ?_
    refine sw_aald k_X7_read rfl (i := 14) (n := 4) (r := 17) rfl (by decide) (by decide) (by decide) rfl 16 rfl ?_
    refine sw_blk k_X7_read 3 21 [(2, .inr (.inr 17)), (0, .inr (.inr 0)), (1, .inl 1)] [.inl (σ 17 1)] σ rfl ?_
    refine sw_if_eq k_X7_read rfl (hσ 17 _) 30 24 (by decide) rfl (fun c5 => ?_) (fun c5 => ?_)
    · refine sw_blk k_X7_read 6 42 [(2, .inr (.inr 17)), (0, .inr (.inr 0)), (1, .inl 1)] [.inl (σ 17 3), .inr (.inr 18), .inr (.inr 12)] σ rfl ?_
      refine sw_callV k_X7_read rfl cV_X0_take ml_X7_261 ⟨by decide, by decide⟩ 12 rfl rfl [.inr (.inr 18), .inl (σ 17 3)] [] rfl rfl (Nat.le_of_ble_eq_true rfl) 45 rfl (sp_take1 σ hσ (σ 17 3) (by omega)) (fun r6 σ7 hq8 => ?_)
      obtain ⟨rfl, rfl⟩ := hq8
      refine sw_blk k_X7_read 2 49 [(2, .inr (.inr 17)), (0, .inr (.inr 0)), (1, .inl 1)] [.inl ((sw_pf σ 13 (fun j : Nat => max 0 (min (σ 18 j) 99)) (σ 17 3).toNat) 17 3)] (sw_pf σ 13 (fun j : Nat => max 0 (min (σ 18 j) 99)) (σ 17 3).toNat) rfl ?_
      refine sw_ireturn k_X7_read rfl rfl ?_
      exact Or.inr (⟨by omega, rfl, rfl⟩)
    · refine sw_blk k_X7_read 2 26 [(2, .inr (.inr 17)), (0, .inr (.inr 0)), (1, .inl 1)] [.inl 1, .inr (.inr 0)] σ rfl ?_
      refine sw_callV k_X7_read rfl cV_X7_finding ml_X7_225 ⟨by decide, by decide⟩ 0 rfl rfl [.inl 1] [] rfl rfl (Nat.le_of_ble_eq_true rfl) 29 rfl (sp_finding σ 1) (fun r9 σ10 hq11 => ?_)
      obtain ⟨rfl, rfl⟩ := hq11
      refine sw_blk k_X7_read 0 29 [(2, .inr (.inr 17)), (0, .inr (.inr 0)), (1, .inl 1)] [.inl (-10 - 1)] (sw_u σ 0 9 1) rfl ?_
      refine sw_ireturn k_X7_read rfl rfl ?_
      exact Or.inl ⟨by omega, rfl, rfl⟩
  · exact absurd (by decide) p1
theorem cc_check1 (σ : sw_S) (hσ : sw_gs σ) (hD : 10 ≤ σ 1 0 ∧ σ 1 0 ≤ 400) (hV : 1 ≤ σ 1 1 ∧ σ 1 1 ≤ 20) (hA : 1 ≤ σ 1 2 ∧ σ 1 2 ≤ 5) (hL : ∀ x : Int, 0 ≤ x → x ≤ σ 1 0 → 1 ≤ σ 2 x.toNat ∧ σ 2 x.toNat ≤ σ 1 1) (hs0 : 0 ≤ σ 17 3) (hs1 : σ 17 3 ≤ 60) (hpl : 0 ≤ σ 5 7 ∧ σ 5 7 ≤ σ 1 0) : sw_Con sw_ly sw_rho M_X7_check [.inr (.inr 0), .inl 1] σ (fun r σ' => (¬ σ 5 9 = 0 ∧ r = some (.inl (-4)) ∧ σ = σ') ∨ ((σ 5 9 = 0 ∧ ¬ σ 17 1 = 0) ∧ r = some (.inl (-10 - 1)) ∧ sw_u σ 0 9 1 = σ') ∨ ((σ 5 9 = 0 ∧ σ 17 1 = 0) ∧ σ = σ' ∧ ∃ m : Nat, (m : Int) ≤ σ 17 3 ∧ (∀ j, j < m → sw_lw (σ 2) (σ 1 0) (σ 1 1) (σ 1 2) (σ 18) (σ 5 7) j) ∧ ((m : Int) < σ 17 3 → ¬ sw_lw (σ 2) (σ 1 0) (σ 1 1) (σ 1 2) (σ 18) (σ 5 7) m) ∧ r = some (.inl (if (m : Int) = σ 17 3 ∧ sw_abs (if σ 17 3 = 0 then 0 else σ 18 (σ 17 3 - 1).toNat) ≤ σ 1 2 then (m : Int) + 1000 else (m : Int))))) := by
  refine sw_con (by decide) (Nat.le_of_ble_eq_true rfl) ?_
  refine sw_blk k_X7_check 1 1 [(0, .inr (.inr 0)), (1, .inl 1)] [.inl 1] σ rfl ?_
  refine sw_callS k_X7_check rfl cS_X7_isSheet ml_X7_219 ⟨by decide, by decide⟩ [.inl 1] [] rfl rfl (Nat.le_of_ble_eq_true rfl) 4 rfl (sp_isSheet σ 1 (by decide)) (fun r2 σ3 hq4 => ?_)
  obtain ⟨rfl, ⟨p1, rfl⟩ | ⟨p1, rfl⟩⟩ := hq4
  · refine sw_blk k_X7_check 0 4 [(0, .inr (.inr 0)), (1, .inl 1)] [.inl 1] σ rfl ?_
    refine sw_if_ne k_X7_check rfl (by decide) 10 7 (by decide) rfl (fun _ => ?_) (fun c => absurd c (by decide))
    refine sw_blk k_X7_check 2 14 [(0, .inr (.inr 0)), (1, .inl 1)] [.inr (.inr 5)] σ rfl ?_
    refine sw_callV k_X7_check rfl cV_X6_rests ml_X7_67 ⟨by decide, by decide⟩ 5 rfl rfl [] [] rfl rfl (Nat.le_of_ble_eq_true rfl) 17 rfl (sp_rests σ  (hσ 5 _)) (fun r6 σ7 hq8 => ?_)
    obtain ⟨rfl, ⟨p5, rfl⟩ | ⟨p5, rfl⟩⟩ := hq8
    · refine sw_blk k_X7_check 0 17 [(0, .inr (.inr 0)), (1, .inl 1)] [.inl 1] σ rfl ?_
      refine sw_if_ne k_X7_check rfl (by decide) 23 20 (by decide) rfl (fun _ => ?_) (fun c => absurd c (by decide))
      refine sw_blk k_X7_check 3 28 [(0, .inr (.inr 0)), (1, .inl 1)] [.inl 1, .inr (.inr 14)] σ rfl ?_
      refine sw_aald k_X7_check rfl (i := 14) (n := 4) (r := 17) rfl (by decide) (by decide) (by decide) rfl 29 rfl ?_
      refine sw_blk k_X7_check 3 34 [(2, .inr (.inr 17)), (0, .inr (.inr 0)), (1, .inl 1)] [.inl (σ 17 1)] σ rfl ?_
      refine sw_if_eq k_X7_check rfl (hσ 17 _) 43 37 (by decide) rfl (fun c9 => ?_) (fun c9 => ?_)
      · refine sw_blk k_X7_check 9 62 [(2, .inr (.inr 17)), (0, .inr (.inr 0)), (1, .inl 1)] [.inl (σ 17 3), .inr (.inr 18), .inl (σ 5 7), .inr (.inr 1)] σ rfl ?_
        refine sw_callV k_X7_check rfl cV_X3_lawfulSpeeds ml_X7_270 ⟨by decide, by decide⟩ 1 rfl rfl [.inl (σ 5 7), .inr (.inr 18), .inl (σ 17 3)] [] rfl rfl (Nat.le_of_ble_eq_true rfl) 65 rfl (sp_lawful1 σ hσ hD hV hA hL (σ 5 7) (σ 17 3) hpl (by omega)) (fun r10 σ11 hq12 => ?_)
        obtain ⟨rfl, m, rfl, m1, m2, m3⟩ := hq12
        refine sw_blk k_X7_check 3 70 [(3, .inl (m : Int)), (2, .inr (.inr 17)), (0, .inr (.inr 0)), (1, .inl 1)] [.inl (σ 17 3)] σ rfl ?_
        refine sw_if_ne k_X7_check rfl (hσ 17 _) 77 73 (by decide) rfl (fun c13 => ?_) (fun c13 => ?_)
        · refine sw_blk k_X7_check 6 87 [(3, .inl (m : Int)), (2, .inr (.inr 17)), (0, .inr (.inr 0)), (1, .inl 1)] [.inl ((σ 17 3) - 1), .inr (.inr 18)] σ rfl ?_
          refine sw_iald k_X7_check rfl (i := 18) (n := 60) rfl (by decide) (by omega) (by omega) 88 rfl ?_
          refine sw_blk k_X7_check 4 95 [(4, .inl (σ 18 (((σ 17 3) - 1).toNat))), (3, .inl (m : Int)), (2, .inr (.inr 17)), (0, .inr (.inr 0)), (1, .inl 1)] [.inl (σ 17 3), .inl (m : Int)] σ rfl ?_
          refine sw_icmp_ne k_X7_check rfl (by omega) (hσ 17 _) 117 98 (by decide) rfl (fun c14 => ?_) (fun c14 => ?_)
          · refine sw_blk k_X7_check 3 122 [(5, .inl 0), (4, .inl (σ 18 (((σ 17 3) - 1).toNat))), (3, .inl (m : Int)), (2, .inr (.inr 17)), (0, .inr (.inr 0)), (1, .inl 1)] [.inl 0] σ rfl ?_
            refine sw_if_eq k_X7_check rfl (by decide) 133 125 (by decide) rfl (fun _ => ?_) (fun c => absurd (by decide) c)
            refine sw_blk k_X7_check 1 134 [(5, .inl 0), (4, .inl (σ 18 (((σ 17 3) - 1).toNat))), (3, .inl (m : Int)), (2, .inr (.inr 17)), (0, .inr (.inr 0)), (1, .inl 1)] [.inl (m : Int)] σ rfl ?_
            refine sw_ireturn k_X7_check rfl rfl ?_
            refine Or.inr (Or.inr ⟨by omega, rfl, m, m1, m2, m3, congrArg (fun z : Int => some (Sum.inl z)) ?_⟩)
            rw [if_neg (fun zz => ?_)]
            obtain ⟨z1, z2⟩ := zz
            first | omega | (rw [if_pos (by omega)] at z2; omega) | (rw [if_neg (by omega)] at z2; omega)
          · refine sw_blk k_X7_check 1 100 [(4, .inl (σ 18 (((σ 17 3) - 1).toNat))), (3, .inl (m : Int)), (2, .inr (.inr 17)), (0, .inr (.inr 0)), (1, .inl 1)] [.inl (σ 18 (((σ 17 3) - 1).toNat))] σ rfl ?_
            have gab : sw_g (σ 18 (((σ 17 3) - 1).toNat)) ∧ sw_g (sw_abs (σ 18 (((σ 17 3) - 1).toNat))) := by
              first
              | exact ⟨by decide, by decide⟩
              | (have hl := (m2 (σ 17 3 - 1).toNat (by omega)).2.1; constructor; exact hσ 18 _; unfold sw_abs at *; omega)
            refine sw_callS k_X7_check rfl cS_J9_abs_0f7a4 ml_X7_273 ⟨by decide, by decide⟩ [.inl (σ 18 (((σ 17 3) - 1).toNat))] [] rfl rfl (Nat.le_of_ble_eq_true rfl) 103 rfl (sp_abs σ (σ 18 (((σ 17 3) - 1).toNat)) gab.1) (fun r15 σ16 hq17 => ?_)
            obtain ⟨rfl, rfl⟩ := hq17
            refine sw_blk k_X7_check 3 110 [(4, .inl (σ 18 (((σ 17 3) - 1).toNat))), (3, .inl (m : Int)), (2, .inr (.inr 17)), (0, .inr (.inr 0)), (1, .inl 1)] [.inl (σ 1 2), .inl (sw_abs (σ 18 (((σ 17 3) - 1).toNat)))] σ rfl ?_
            refine sw_icmp_gt k_X7_check rfl gab.2 (hσ 1 _) 117 113 (by decide) rfl (fun c18 => ?_) (fun c18 => ?_)
            · refine sw_blk k_X7_check 3 122 [(5, .inl 0), (4, .inl (σ 18 (((σ 17 3) - 1).toNat))), (3, .inl (m : Int)), (2, .inr (.inr 17)), (0, .inr (.inr 0)), (1, .inl 1)] [.inl 0] σ rfl ?_
              refine sw_if_eq k_X7_check rfl (by decide) 133 125 (by decide) rfl (fun _ => ?_) (fun c => absurd (by decide) c)
              refine sw_blk k_X7_check 1 134 [(5, .inl 0), (4, .inl (σ 18 (((σ 17 3) - 1).toNat))), (3, .inl (m : Int)), (2, .inr (.inr 17)), (0, .inr (.inr 0)), (1, .inl 1)] [.inl (m : Int)] σ rfl ?_
              refine sw_ireturn k_X7_check rfl rfl ?_
              refine Or.inr (Or.inr ⟨by omega, rfl, m, m1, m2, m3, congrArg (fun z : Int => some (Sum.inl z)) ?_⟩)
              rw [if_neg (fun zz => ?_)]
              obtain ⟨z1, z2⟩ := zz
              first | omega | (rw [if_pos (by omega)] at z2; omega) | (rw [if_neg (by omega)] at z2; omega)
            · refine sw_blk k_X7_check 4 122 [(5, .inl 1), (4, .inl (σ 18 (((σ 17 3) - 1).toNat))), (3, .inl (m : Int)), (2, .inr (.inr 17)), (0, .inr (.inr 0)), (1, .inl 1)] [.inl 1] σ rfl ?_
              refine sw_if_eq k_X7_check rfl (by decide) 133 125 (by decide) rfl (fun c => absurd c (by decide)) (fun _ => ?_)
              refine sw_blk k_X7_check 4 134 [(5, .inl 1), (4, .inl (σ 18 (((σ 17 3) - 1).toNat))), (3, .inl (m : Int)), (2, .inr (.inr 17)), (0, .inr (.inr 0)), (1, .inl 1)] [.inl ((m : Int) + 1000)] σ rfl ?_
              refine sw_ireturn k_X7_check rfl rfl ?_
              refine Or.inr (Or.inr ⟨by omega, rfl, m, m1, m2, m3, congrArg (fun z : Int => some (Sum.inl z)) ?_⟩)
              rw [if_pos ⟨by omega, by first | (rw [if_pos (by omega)]; omega) | (rw [if_neg (by omega)]; omega)⟩]
        · refine sw_blk k_X7_check 6 95 [(4, .inl 0), (3, .inl (m : Int)), (2, .inr (.inr 17)), (0, .inr (.inr 0)), (1, .inl 1)] [.inl (σ 17 3), .inl (m : Int)] σ rfl ?_
          refine sw_icmp_ne k_X7_check rfl (by omega) (hσ 17 _) 117 98 (by decide) rfl (fun c19 => ?_) (fun c19 => ?_)
          · refine sw_blk k_X7_check 3 122 [(5, .inl 0), (4, .inl 0), (3, .inl (m : Int)), (2, .inr (.inr 17)), (0, .inr (.inr 0)), (1, .inl 1)] [.inl 0] σ rfl ?_
            refine sw_if_eq k_X7_check rfl (by decide) 133 125 (by decide) rfl (fun _ => ?_) (fun c => absurd (by decide) c)
            refine sw_blk k_X7_check 1 134 [(5, .inl 0), (4, .inl 0), (3, .inl (m : Int)), (2, .inr (.inr 17)), (0, .inr (.inr 0)), (1, .inl 1)] [.inl (m : Int)] σ rfl ?_
            refine sw_ireturn k_X7_check rfl rfl ?_
            refine Or.inr (Or.inr ⟨by omega, rfl, m, m1, m2, m3, congrArg (fun z : Int => some (Sum.inl z)) ?_⟩)
            rw [if_neg (fun zz => ?_)]
            obtain ⟨z1, z2⟩ := zz
            first | omega | (rw [if_pos (by omega)] at z2; omega) | (rw [if_neg (by omega)] at z2; omega)
          · refine sw_blk k_X7_check 1 100 [(4, .inl 0), (3, .inl (m : Int)), (2, .inr (.inr 17)), (0, .inr (.inr 0)), (1, .inl 1)] [.inl 0] σ rfl ?_
            have gab : sw_g 0 ∧ sw_g (sw_abs 0) := by
              first
              | exact ⟨by decide, by decide⟩
              | (have hl := (m2 (σ 17 3 - 1).toNat (by omega)).2.1; constructor; exact hσ 18 _; unfold sw_abs at *; omega)
            refine sw_callS k_X7_check rfl cS_J9_abs_0f7a4 ml_X7_273 ⟨by decide, by decide⟩ [.inl 0] [] rfl rfl (Nat.le_of_ble_eq_true rfl) 103 rfl (sp_abs σ 0 gab.1) (fun r20 σ21 hq22 => ?_)
            obtain ⟨rfl, rfl⟩ := hq22
            refine sw_blk k_X7_check 3 110 [(4, .inl 0), (3, .inl (m : Int)), (2, .inr (.inr 17)), (0, .inr (.inr 0)), (1, .inl 1)] [.inl (σ 1 2), .inl (sw_abs 0)] σ rfl ?_
            refine sw_icmp_gt k_X7_check rfl gab.2 (hσ 1 _) 117 113 (by decide) rfl (fun c23 => ?_) (fun c23 => ?_)
            · refine sw_blk k_X7_check 3 122 [(5, .inl 0), (4, .inl 0), (3, .inl (m : Int)), (2, .inr (.inr 17)), (0, .inr (.inr 0)), (1, .inl 1)] [.inl 0] σ rfl ?_
              refine sw_if_eq k_X7_check rfl (by decide) 133 125 (by decide) rfl (fun _ => ?_) (fun c => absurd (by decide) c)
              refine sw_blk k_X7_check 1 134 [(5, .inl 0), (4, .inl 0), (3, .inl (m : Int)), (2, .inr (.inr 17)), (0, .inr (.inr 0)), (1, .inl 1)] [.inl (m : Int)] σ rfl ?_
              refine sw_ireturn k_X7_check rfl rfl ?_
              refine Or.inr (Or.inr ⟨by omega, rfl, m, m1, m2, m3, congrArg (fun z : Int => some (Sum.inl z)) ?_⟩)
              rw [if_neg (fun zz => ?_)]
              obtain ⟨z1, z2⟩ := zz
              first | omega | (rw [if_pos (by omega)] at z2; omega) | (rw [if_neg (by omega)] at z2; omega)
            · refine sw_blk k_X7_check 4 122 [(5, .inl 1), (4, .inl 0), (3, .inl (m : Int)), (2, .inr (.inr 17)), (0, .inr (.inr 0)), (1, .inl 1)] [.inl 1] σ rfl ?_
              refine sw_if_eq k_X7_check rfl (by decide) 133 125 (by decide) rfl (fun c => absurd c (by decide)) (fun _ => ?_)
              refine sw_blk k_X7_check 4 134 [(5, .inl 1), (4, .inl 0), (3, .inl (m : Int)), (2, .inr (.inr 17)), (0, .inr (.inr 0)), (1, .inl 1)] [.inl ((m : Int) + 1000)] σ rfl ?_
              refine sw_ireturn k_X7_check rfl rfl ?_
              refine Or.inr (Or.inr ⟨by omega, rfl, m, m1, m2, m3, congrArg (fun z : Int => some (Sum.inl z)) ?_⟩)
              rw [if_pos ⟨by omega, by first | (rw [if_pos (by omega)]; omega) | (rw [if_neg (by omega)]; omega)⟩]
      · refine sw_blk k_X7_check 2 39 [(2, .inr (.inr 17)), (0, .inr (.inr 0)), (1, .inl 1)] [.inl 1, .inr (.inr 0)] σ rfl ?_
        refine sw_callV k_X7_check rfl cV_X7_finding ml_X7_225 ⟨by decide, by decide⟩ 0 rfl rfl [.inl 1] [] rfl rfl (Nat.le_of_ble_eq_true rfl) 42 rfl (sp_finding σ 1) (fun r24 σ25 hq26 => ?_)
        obtain ⟨rfl, rfl⟩ := hq26
        refine sw_blk k_X7_check 0 42 [(2, .inr (.inr 17)), (0, .inr (.inr 0)), (1, .inl 1)] [.inl (-10 - 1)] (sw_u σ 0 9 1) rfl ?_
        refine sw_ireturn k_X7_check rfl rfl ?_
        exact Or.inr (Or.inl ⟨by omega, rfl, rfl⟩)
    · refine sw_blk k_X7_check 0 17 [(0, .inr (.inr 0)), (1, .inl 1)] [.inl 0] σ rfl ?_
      refine sw_if_ne k_X7_check rfl (by decide) 23 20 (by decide) rfl (fun c => absurd (by decide) c) (fun _ => ?_)
      refine sw_blk k_X7_check 1 22 [(0, .inr (.inr 0)), (1, .inl 1)] [.inl (-4)] σ rfl ?_
      refine sw_ireturn k_X7_check rfl rfl ?_
      exact Or.inl ⟨by omega, rfl, rfl⟩
  · exact absurd (by decide) p1
theorem cc_sheet2 (σ : sw_S) (f k : Int) (gf : sw_g f) (gk : sw_g k) : sw_Con sw_ly sw_rho M_X7_sheet [.inr (.inr 0), .inl 2, .inl f, .inl k] σ (fun r σ' => (¬ ((0 ≤ f ∧ f ≤ 2) ∧ k ≤ 60) ∧ r = some (.inl (-2)) ∧ σ = σ') ∨ ((((0 ≤ f ∧ f ≤ 2) ∧ k ≤ 60) ∧ k < 0) ∧ r = some (.inl (-10 - 5)) ∧ (sw_u σ 0 9 5) = σ') ∨ ((((0 ≤ f ∧ f ≤ 2) ∧ k ≤ 60) ∧ 0 ≤ k) ∧ r = some (.inl (k)) ∧ (sw_fl (sw_u (sw_u (sw_u σ 19 2 f) 19 3 k) 19 1 0) 20 60 0) = σ')) := by
  refine sw_con (by decide) (Nat.le_of_ble_eq_true rfl) ?_
  refine sw_blk k_X7_sheet 1 1 [(0, .inr (.inr 0)), (1, .inl 2), (2, .inl f), (3, .inl k)] [.inl 2] σ rfl ?_
  refine sw_callS k_X7_sheet rfl cS_X7_isSheet ml_X7_219 ⟨by decide, by decide⟩ [.inl 2] [] rfl rfl (Nat.le_of_ble_eq_true rfl) 4 rfl (sp_isSheet σ 2 (by decide)) (fun r2 σ3 hq4 => ?_)
  obtain ⟨rfl, ⟨p1, rfl⟩ | ⟨p1, rfl⟩⟩ := hq4
  · refine sw_blk k_X7_sheet 0 4 [(0, .inr (.inr 0)), (1, .inl 2), (2, .inl f), (3, .inl k)] [.inl 1] σ rfl ?_
    refine sw_if_eq k_X7_sheet rfl (by decide) 20 7 (by decide) rfl (fun c => absurd c (by decide)) (fun _ => ?_)
    refine sw_blk k_X7_sheet 1 8 [(0, .inr (.inr 0)), (1, .inl 2), (2, .inl f), (3, .inl k)] [.inl f] σ rfl ?_
    refine sw_callS k_X7_sheet rfl cS_X7_isForm ml_X7_222 ⟨by decide, by decide⟩ [.inl f] [] rfl rfl (Nat.le_of_ble_eq_true rfl) 11 rfl (sp_isForm σ f (by omega)) (fun r6 σ7 hq8 => ?_)
    obtain ⟨rfl, ⟨p5, rfl⟩ | ⟨p5, rfl⟩⟩ := hq8
    · refine sw_blk k_X7_sheet 0 11 [(0, .inr (.inr 0)), (1, .inl 2), (2, .inl f), (3, .inl k)] [.inl 1] σ rfl ?_
      refine sw_if_eq k_X7_sheet rfl (by decide) 20 14 (by decide) rfl (fun c => absurd c (by decide)) (fun _ => ?_)
      refine sw_blk k_X7_sheet 2 17 [(0, .inr (.inr 0)), (1, .inl 2), (2, .inl f), (3, .inl k)] [.inl 60, .inl k] σ rfl ?_
      refine sw_icmp_le k_X7_sheet rfl (by omega) (by decide) 23 20 (by decide) rfl (fun c9 => ?_) (fun c9 => ?_)
      · refine sw_blk k_X7_sheet 1 24 [(0, .inr (.inr 0)), (1, .inl 2), (2, .inl f), (3, .inl k)] [.inl k] σ rfl ?_
        refine sw_if_ge k_X7_sheet rfl (by omega) 33 27 (by decide) rfl (fun c10 => ?_) (fun c10 => ?_)
        · refine sw_blk k_X7_sheet 3 38 [(0, .inr (.inr 0)), (1, .inl 2), (2, .inl f), (3, .inl k)] [.inl 2, .inr (.inr 14)] σ rfl ?_
          refine sw_aald k_X7_sheet rfl (i := 14) (n := 4) (r := 19) rfl (by decide) (by decide) (by decide) rfl 39 rfl ?_
          refine sw_blk k_X7_sheet 2 41 [(0, .inr (.inr 0)), (1, .inl 2), (2, .inl f), (3, .inl k)] [.inl k, .inl f, .inr (.inr 19)] σ rfl ?_
          refine sw_callV k_X7_sheet rfl cV_X4_renew ml_X7_228 ⟨by decide, by decide⟩ 19 rfl rfl [.inl f, .inl k] [] rfl rfl (Nat.le_of_ble_eq_true rfl) 44 rfl (sp_srenew2 σ f k) (fun r11 σ12 hq13 => ?_)
          obtain ⟨rfl, rfl⟩ := hq13
          refine sw_blk k_X7_sheet 1 45 [(0, .inr (.inr 0)), (1, .inl 2), (2, .inl f), (3, .inl k)] [.inl k] (sw_fl (sw_u (sw_u (sw_u σ 19 2 f) 19 3 k) 19 1 0) 20 60 0) rfl ?_
          refine sw_ireturn k_X7_sheet rfl rfl ?_
          exact Or.inr (Or.inr (⟨by omega, rfl, rfl⟩))
        · refine sw_blk k_X7_sheet 2 29 [(0, .inr (.inr 0)), (1, .inl 2), (2, .inl f), (3, .inl k)] [.inl 5, .inr (.inr 0)] σ rfl ?_
          refine sw_callV k_X7_sheet rfl cV_X7_finding ml_X7_225 ⟨by decide, by decide⟩ 0 rfl rfl [.inl 5] [] rfl rfl (Nat.le_of_ble_eq_true rfl) 32 rfl (sp_finding σ 5) (fun r14 σ15 hq16 => ?_)
          obtain ⟨rfl, rfl⟩ := hq16
          refine sw_blk k_X7_sheet 0 32 [(0, .inr (.inr 0)), (1, .inl 2), (2, .inl f), (3, .inl k)] [.inl (-10 - 5)] (sw_u σ 0 9 5) rfl ?_
          refine sw_ireturn k_X7_sheet rfl rfl ?_
          exact Or.inr (Or.inl ⟨by omega, rfl, rfl⟩)
      · refine sw_blk k_X7_sheet 1 22 [(0, .inr (.inr 0)), (1, .inl 2), (2, .inl f), (3, .inl k)] [.inl (-2)] σ rfl ?_
        refine sw_ireturn k_X7_sheet rfl rfl ?_
        exact Or.inl ⟨by omega, rfl, rfl⟩
    · refine sw_blk k_X7_sheet 0 11 [(0, .inr (.inr 0)), (1, .inl 2), (2, .inl f), (3, .inl k)] [.inl 0] σ rfl ?_
      refine sw_if_eq k_X7_sheet rfl (by decide) 20 14 (by decide) rfl (fun _ => ?_) (fun c => absurd (by decide) c)
      refine sw_blk k_X7_sheet 1 22 [(0, .inr (.inr 0)), (1, .inl 2), (2, .inl f), (3, .inl k)] [.inl (-2)] σ rfl ?_
      refine sw_ireturn k_X7_sheet rfl rfl ?_
      exact Or.inl ⟨by omega, rfl, rfl⟩
  · exact absurd (by decide) p1
theorem cc_lose2 (σ : sw_S) (hσ : sw_gs σ) : sw_Con sw_ly sw_rho M_X7_lose [.inr (.inr 0), .inl 2] σ (fun r σ' => (¬ σ 19 1 = 0 ∧ r = some (.inl (-10 - 1)) ∧ (sw_u σ 0 9 1) = σ') ∨ (σ 19 1 = 0 ∧ r = some (.inl (σ 19 3)) ∧ (sw_u σ 19 1 1) = σ')) := by
  refine sw_con (by decide) (Nat.le_of_ble_eq_true rfl) ?_
  refine sw_blk k_X7_lose 1 1 [(0, .inr (.inr 0)), (1, .inl 2)] [.inl 2] σ rfl ?_
  refine sw_callS k_X7_lose rfl cS_X7_isSheet ml_X7_219 ⟨by decide, by decide⟩ [.inl 2] [] rfl rfl (Nat.le_of_ble_eq_true rfl) 4 rfl (sp_isSheet σ 2 (by decide)) (fun r2 σ3 hq4 => ?_)
  obtain ⟨rfl, ⟨p1, rfl⟩ | ⟨p1, rfl⟩⟩ := hq4
  · refine sw_blk k_X7_lose 0 4 [(0, .inr (.inr 0)), (1, .inl 2)] [.inl 1] σ rfl ?_
    refine sw_if_ne k_X7_lose rfl (by decide) 10 7 (by decide) rfl (fun _ => ?_) (fun c => absurd c (by decide))
    refine sw_blk k_X7_lose 3 15 [(0, .inr (.inr 0)), (1, .inl 2)] [.inl 2, .inr (.inr 14)] σ rfl ?_
    refine sw_aald k_X7_lose rfl (i := 14) (n := 4) (r := 19) rfl (by decide) (by decide) (by decide) rfl 16 rfl ?_
    refine sw_blk k_X7_lose 3 21 [(2, .inr (.inr 19)), (0, .inr (.inr 0)), (1, .inl 2)] [.inl (σ 19 1)] σ rfl ?_
    refine sw_if_eq k_X7_lose rfl (hσ 19 _) 30 24 (by decide) rfl (fun c5 => ?_) (fun c5 => ?_)
    · refine sw_blk k_X7_lose 5 39 [(2, .inr (.inr 19)), (0, .inr (.inr 0)), (1, .inl 2)] [.inl (σ 19 3)] (sw_u σ 19 1 1) rfl ?_
      refine sw_ireturn k_X7_lose rfl rfl ?_
      exact Or.inr (⟨by omega, rfl, rfl⟩)
    · refine sw_blk k_X7_lose 2 26 [(2, .inr (.inr 19)), (0, .inr (.inr 0)), (1, .inl 2)] [.inl 1, .inr (.inr 0)] σ rfl ?_
      refine sw_callV k_X7_lose rfl cV_X7_finding ml_X7_225 ⟨by decide, by decide⟩ 0 rfl rfl [.inl 1] [] rfl rfl (Nat.le_of_ble_eq_true rfl) 29 rfl (sp_finding σ 1) (fun r6 σ7 hq8 => ?_)
      obtain ⟨rfl, rfl⟩ := hq8
      refine sw_blk k_X7_lose 0 29 [(2, .inr (.inr 19)), (0, .inr (.inr 0)), (1, .inl 2)] [.inl (-10 - 1)] (sw_u σ 0 9 1) rfl ?_
      refine sw_ireturn k_X7_lose rfl rfl ?_
      exact Or.inl ⟨by omega, rfl, rfl⟩
  · exact absurd (by decide) p1
theorem cc_put2 (σ : sw_S) (hσ : sw_gs σ) (hs0 : 0 ≤ σ 19 3) (hs1 : σ 19 3 ≤ 60) (hfm : 0 ≤ σ 19 2 ∧ σ 19 2 ≤ 2) (f i v : Int) (gf : sw_g f) (gi : sw_g i) (gv : sw_g v) : sw_Con sw_ly sw_rho M_X7_put [.inr (.inr 0), .inl 2, .inl f, .inl i, .inl v] σ (fun r σ' => (¬ (0 ≤ f ∧ f ≤ 2) ∧ r = some (.inl (-2)) ∧ σ = σ') ∨ ((0 ≤ f ∧ f ≤ 2) ∧ ∃ wr : Int, (if σ 19 1 = 0 then (if σ 19 2 = f then (if 0 ≤ i ∧ i < σ 19 3 then (0 : Int) else 2) else 3) else 1) = wr ∧ ((¬ wr = 0 ∧ r = some (.inl (-10 - wr)) ∧ sw_u σ 0 9 wr = σ') ∨ (wr = 0 ∧ r = some (.inl 1) ∧ sw_u σ 20 i.toNat (sw_cv (σ 19 2) v) = σ')))) := by
  refine sw_con (by decide) (Nat.le_of_ble_eq_true rfl) ?_
  refine sw_blk k_X7_put 1 1 [(0, .inr (.inr 0)), (1, .inl 2), (2, .inl f), (3, .inl i), (4, .inl v)] [.inl 2] σ rfl ?_
  refine sw_callS k_X7_put rfl cS_X7_isSheet ml_X7_219 ⟨by decide, by decide⟩ [.inl 2] [] rfl rfl (Nat.le_of_ble_eq_true rfl) 4 rfl (sp_isSheet σ 2 (by decide)) (fun r2 σ3 hq4 => ?_)
  obtain ⟨rfl, ⟨p1, rfl⟩ | ⟨p1, rfl⟩⟩ := hq4
  · refine sw_blk k_X7_put 0 4 [(0, .inr (.inr 0)), (1, .inl 2), (2, .inl f), (3, .inl i), (4, .inl v)] [.inl 1] σ rfl ?_
    refine sw_if_eq k_X7_put rfl (by decide) 14 7 (by decide) rfl (fun c => absurd c (by decide)) (fun _ => ?_)
    refine sw_blk k_X7_put 1 8 [(0, .inr (.inr 0)), (1, .inl 2), (2, .inl f), (3, .inl i), (4, .inl v)] [.inl f] σ rfl ?_
    refine sw_callS k_X7_put rfl cS_X7_isForm ml_X7_222 ⟨by decide, by decide⟩ [.inl f] [] rfl rfl (Nat.le_of_ble_eq_true rfl) 11 rfl (sp_isForm σ f (by omega)) (fun r6 σ7 hq8 => ?_)
    obtain ⟨rfl, ⟨p5, rfl⟩ | ⟨p5, rfl⟩⟩ := hq8
    · refine sw_blk k_X7_put 0 11 [(0, .inr (.inr 0)), (1, .inl 2), (2, .inl f), (3, .inl i), (4, .inl v)] [.inl 1] σ rfl ?_
      refine sw_if_ne k_X7_put rfl (by decide) 17 14 (by decide) rfl (fun _ => ?_) (fun c => absurd c (by decide))
      refine sw_blk k_X7_put 3 22 [(0, .inr (.inr 0)), (1, .inl 2), (2, .inl f), (3, .inl i), (4, .inl v)] [.inl 2, .inr (.inr 14)] σ rfl ?_
      refine sw_aald k_X7_put rfl (i := 14) (n := 4) (r := 19) rfl (by decide) (by decide) (by decide) rfl 23 rfl ?_
      refine sw_blk k_X7_put 4 29 [(5, .inr (.inr 19)), (0, .inr (.inr 0)), (1, .inl 2), (2, .inl f), (3, .inl i), (4, .inl v)] [.inl i, .inl f, .inr (.inr 19)] σ rfl ?_
      refine sw_callS k_X7_put rfl cS_X7_wrongOfItem ml_X7_237 ⟨by decide, by decide⟩ [.inr (.inr 19), .inl f, .inl i] [] rfl rfl (Nat.le_of_ble_eq_true rfl) 32 rfl (sp_wrong2 σ hσ f i (by omega) (by omega) hs0 hs1) (fun r9 σ10 hq11 => ?_)
      obtain ⟨rfl, rfl⟩ := hq11
      generalize hwr : (if σ 19 1 = 0 then (if σ 19 2 = f then (if 0 ≤ i ∧ i < σ 19 3 then (0 : Int) else 2) else 3) else 1) = wr
      have gwr : 0 ≤ wr ∧ wr ≤ 3 := by omega
      refine sw_blk k_X7_put 2 36 [(6, .inl wr), (5, .inr (.inr 19)), (0, .inr (.inr 0)), (1, .inl 2), (2, .inl f), (3, .inl i), (4, .inl v)] [.inl wr] σ rfl ?_
      refine sw_if_eq k_X7_put rfl (by omega) 46 39 (by decide) rfl (fun c12 => ?_) (fun c12 => ?_)
      · refine sw_blk k_X7_put 3 51 [(6, .inl wr), (5, .inr (.inr 19)), (0, .inr (.inr 0)), (1, .inl 2), (2, .inl f), (3, .inl i), (4, .inl v)] [.inl v, .inl i, .inr (.inr 19)] σ rfl ?_
        refine sw_callV k_X7_put rfl cV_X4_store ml_X7_241 ⟨by decide, by decide⟩ 19 rfl rfl [.inl i, .inl v] [] rfl rfl (Nat.le_of_ble_eq_true rfl) 54 rfl (sp_store2 σ hσ i v (by omega) hfm) (fun r13 σ14 hq15 => ?_)
        obtain ⟨rfl, rfl⟩ := hq15
        refine sw_blk k_X7_put 1 55 [(6, .inl wr), (5, .inr (.inr 19)), (0, .inr (.inr 0)), (1, .inl 2), (2, .inl f), (3, .inl i), (4, .inl v)] [.inl 1] (sw_u σ 20 i.toNat (if σ 19 2 = 0 then sw_b v else if σ 19 2 = 1 then sw_h v else v)) rfl ?_
        refine sw_ireturn k_X7_put rfl rfl ?_
        exact Or.inr ⟨by omega, wr, rfl, Or.inr ⟨by omega, rfl, rfl⟩⟩
      · refine sw_blk k_X7_put 2 42 [(6, .inl wr), (5, .inr (.inr 19)), (0, .inr (.inr 0)), (1, .inl 2), (2, .inl f), (3, .inl i), (4, .inl v)] [.inl wr, .inr (.inr 0)] σ rfl ?_
        refine sw_callV k_X7_put rfl cV_X7_finding ml_X7_225 ⟨by decide, by decide⟩ 0 rfl rfl [.inl wr] [] rfl rfl (Nat.le_of_ble_eq_true rfl) 45 rfl (sp_finding σ wr) (fun r16 σ17 hq18 => ?_)
        obtain ⟨rfl, rfl⟩ := hq18
        refine sw_blk k_X7_put 0 45 [(6, .inl wr), (5, .inr (.inr 19)), (0, .inr (.inr 0)), (1, .inl 2), (2, .inl f), (3, .inl i), (4, .inl v)] [.inl (-10 - wr)] (sw_u σ 0 9 wr) rfl ?_
        refine sw_ireturn k_X7_put rfl rfl ?_
        exact Or.inr ⟨by omega, wr, rfl, Or.inl ⟨by omega, rfl, rfl⟩⟩
    · refine sw_blk k_X7_put 0 11 [(0, .inr (.inr 0)), (1, .inl 2), (2, .inl f), (3, .inl i), (4, .inl v)] [.inl 0] σ rfl ?_
      refine sw_if_ne k_X7_put rfl (by decide) 17 14 (by decide) rfl (fun c => absurd (by decide) c) (fun _ => ?_)
      refine sw_blk k_X7_put 1 16 [(0, .inr (.inr 0)), (1, .inl 2), (2, .inl f), (3, .inl i), (4, .inl v)] [.inl (-2)] σ rfl ?_
      refine sw_ireturn k_X7_put rfl rfl ?_
      exact Or.inl ⟨by omega, rfl, rfl⟩
  · exact absurd (by decide) p1
theorem cc_get2 (σ : sw_S) (hσ : sw_gs σ) (hs0 : 0 ≤ σ 19 3) (hs1 : σ 19 3 ≤ 60) (f i : Int) (gf : sw_g f) (gi : sw_g i) : sw_Con sw_ly sw_rho M_X7_get [.inr (.inr 0), .inl 2, .inl f, .inl i] σ (fun r σ' => (¬ (0 ≤ f ∧ f ≤ 2) ∧ r = some (.inl (-2147483648)) ∧ σ = σ') ∨ ((0 ≤ f ∧ f ≤ 2) ∧ ∃ wr : Int, (if σ 19 1 = 0 then (if σ 19 2 = f then (if 0 ≤ i ∧ i < σ 19 3 then (0 : Int) else 2) else 3) else 1) = wr ∧ ((¬ wr = 0 ∧ r = some (.inl (-2147483648)) ∧ sw_u σ 0 9 wr = σ') ∨ (wr = 0 ∧ r = some (.inl (σ 20 i.toNat)) ∧ σ = σ')))) := by
  refine sw_con (by decide) (Nat.le_of_ble_eq_true rfl) ?_
  refine sw_blk k_X7_get 1 1 [(0, .inr (.inr 0)), (1, .inl 2), (2, .inl f), (3, .inl i)] [.inl 2] σ rfl ?_
  refine sw_callS k_X7_get rfl cS_X7_isSheet ml_X7_219 ⟨by decide, by decide⟩ [.inl 2] [] rfl rfl (Nat.le_of_ble_eq_true rfl) 4 rfl (sp_isSheet σ 2 (by decide)) (fun r2 σ3 hq4 => ?_)
  obtain ⟨rfl, ⟨p1, rfl⟩ | ⟨p1, rfl⟩⟩ := hq4
  · refine sw_blk k_X7_get 0 4 [(0, .inr (.inr 0)), (1, .inl 2), (2, .inl f), (3, .inl i)] [.inl 1] σ rfl ?_
    refine sw_if_eq k_X7_get rfl (by decide) 14 7 (by decide) rfl (fun c => absurd c (by decide)) (fun _ => ?_)
    refine sw_blk k_X7_get 1 8 [(0, .inr (.inr 0)), (1, .inl 2), (2, .inl f), (3, .inl i)] [.inl f] σ rfl ?_
    refine sw_callS k_X7_get rfl cS_X7_isForm ml_X7_222 ⟨by decide, by decide⟩ [.inl f] [] rfl rfl (Nat.le_of_ble_eq_true rfl) 11 rfl (sp_isForm σ f (by omega)) (fun r6 σ7 hq8 => ?_)
    obtain ⟨rfl, ⟨p5, rfl⟩ | ⟨p5, rfl⟩⟩ := hq8
    · refine sw_blk k_X7_get 0 11 [(0, .inr (.inr 0)), (1, .inl 2), (2, .inl f), (3, .inl i)] [.inl 1] σ rfl ?_
      refine sw_if_ne k_X7_get rfl (by decide) 17 14 (by decide) rfl (fun _ => ?_) (fun c => absurd c (by decide))
      refine sw_blk k_X7_get 3 22 [(0, .inr (.inr 0)), (1, .inl 2), (2, .inl f), (3, .inl i)] [.inl 2, .inr (.inr 14)] σ rfl ?_
      refine sw_aald k_X7_get rfl (i := 14) (n := 4) (r := 19) rfl (by decide) (by decide) (by decide) rfl 23 rfl ?_
      refine sw_blk k_X7_get 4 29 [(4, .inr (.inr 19)), (0, .inr (.inr 0)), (1, .inl 2), (2, .inl f), (3, .inl i)] [.inl i, .inl f, .inr (.inr 19)] σ rfl ?_
      refine sw_callS k_X7_get rfl cS_X7_wrongOfItem ml_X7_237 ⟨by decide, by decide⟩ [.inr (.inr 19), .inl f, .inl i] [] rfl rfl (Nat.le_of_ble_eq_true rfl) 32 rfl (sp_wrong2 σ hσ f i (by omega) (by omega) hs0 hs1) (fun r9 σ10 hq11 => ?_)
      obtain ⟨rfl, rfl⟩ := hq11
      generalize hwr : (if σ 19 1 = 0 then (if σ 19 2 = f then (if 0 ≤ i ∧ i < σ 19 3 then (0 : Int) else 2) else 3) else 1) = wr
      have gwr : 0 ≤ wr ∧ wr ≤ 3 := by omega
      refine sw_blk k_X7_get 2 36 [(5, .inl wr), (4, .inr (.inr 19)), (0, .inr (.inr 0)), (1, .inl 2), (2, .inl f), (3, .inl i)] [.inl wr] σ rfl ?_
      refine sw_if_eq k_X7_get rfl (by omega) 48 39 (by decide) rfl (fun c12 => ?_) (fun c12 => ?_)
      · refine sw_blk k_X7_get 3 54 [(5, .inl wr), (4, .inr (.inr 19)), (0, .inr (.inr 0)), (1, .inl 2), (2, .inl f), (3, .inl i)] [.inl i, .inr (.inr 20)] σ rfl ?_
        refine sw_iald k_X7_get rfl (i := 20) (n := 60) rfl (by decide) (by omega) (by omega) 55 rfl ?_
        refine sw_blk k_X7_get 0 55 [(5, .inl wr), (4, .inr (.inr 19)), (0, .inr (.inr 0)), (1, .inl 2), (2, .inl f), (3, .inl i)] [.inl (σ 20 i.toNat)] σ rfl ?_
        refine sw_ireturn k_X7_get rfl rfl ?_
        exact Or.inr ⟨by omega, wr, rfl, Or.inr ⟨by omega, rfl, rfl⟩⟩
      · refine sw_blk k_X7_get 4 47 [(5, .inl wr), (4, .inr (.inr 19)), (0, .inr (.inr 0)), (1, .inl 2), (2, .inl f), (3, .inl i)] [.inl (-2147483648)] (sw_u σ 0 9 wr) rfl ?_
        refine sw_ireturn k_X7_get rfl rfl ?_
        exact Or.inr ⟨by omega, wr, rfl, Or.inl ⟨by omega, rfl, rfl⟩⟩
    · refine sw_blk k_X7_get 0 11 [(0, .inr (.inr 0)), (1, .inl 2), (2, .inl f), (3, .inl i)] [.inl 0] σ rfl ?_
      refine sw_if_ne k_X7_get rfl (by decide) 17 14 (by decide) rfl (fun c => absurd (by decide) c) (fun _ => ?_)
      refine sw_blk k_X7_get 1 16 [(0, .inr (.inr 0)), (1, .inl 2), (2, .inl f), (3, .inl i)] [.inl (-2147483648)] σ rfl ?_
      refine sw_ireturn k_X7_get rfl rfl ?_
      exact Or.inl ⟨by omega, rfl, rfl⟩
  · exact absurd (by decide) p1
theorem cc_read2 (σ : sw_S) (hσ : sw_gs σ) (hs0 : 0 ≤ σ 19 3) (hs1 : σ 19 3 ≤ 60) : sw_Con sw_ly sw_rho M_X7_read [.inr (.inr 0), .inl 2] σ (fun r σ' => (¬ σ 19 1 = 0 ∧ r = some (.inl (-10 - 1)) ∧ (sw_u σ 0 9 1) = σ') ∨ (σ 19 1 = 0 ∧ r = some (.inl (σ 19 3)) ∧ (sw_pf σ 13 (fun j : Nat => max 0 (min (σ 20 j) 99)) (σ 19 3).toNat) = σ')) := by
  refine sw_con (by decide) (Nat.le_of_ble_eq_true rfl) ?_
  refine sw_blk k_X7_read 1 1 [(0, .inr (.inr 0)), (1, .inl 2)] [.inl 2] σ rfl ?_
  refine sw_callS k_X7_read rfl cS_X7_isSheet ml_X7_219 ⟨by decide, by decide⟩ [.inl 2] [] rfl rfl (Nat.le_of_ble_eq_true rfl) 4 rfl (sp_isSheet σ 2 (by decide)) (fun r2 σ3 hq4 => ?_)
  obtain ⟨rfl, ⟨p1, rfl⟩ | ⟨p1, rfl⟩⟩ := hq4
  · refine sw_blk k_X7_read 0 4 [(0, .inr (.inr 0)), (1, .inl 2)] [.inl 1] σ rfl ?_
    refine sw_if_ne k_X7_read rfl (by decide) 10 7 (by decide) rfl (fun _ => ?_) (fun c => absurd c (by decide))
    refine sw_blk k_X7_read 3 15 [(0, .inr (.inr 0)), (1, .inl 2)] [.inl 2, .inr (.inr 14)] σ rfl ?_
    refine sw_aald k_X7_read rfl (i := 14) (n := 4) (r := 19) rfl (by decide) (by decide) (by decide) rfl 16 rfl ?_
    refine sw_blk k_X7_read 3 21 [(2, .inr (.inr 19)), (0, .inr (.inr 0)), (1, .inl 2)] [.inl (σ 19 1)] σ rfl ?_
    refine sw_if_eq k_X7_read rfl (hσ 19 _) 30 24 (by decide) rfl (fun c5 => ?_) (fun c5 => ?_)
    · refine sw_blk k_X7_read 6 42 [(2, .inr (.inr 19)), (0, .inr (.inr 0)), (1, .inl 2)] [.inl (σ 19 3), .inr (.inr 20), .inr (.inr 12)] σ rfl ?_
      refine sw_callV k_X7_read rfl cV_X0_take ml_X7_261 ⟨by decide, by decide⟩ 12 rfl rfl [.inr (.inr 20), .inl (σ 19 3)] [] rfl rfl (Nat.le_of_ble_eq_true rfl) 45 rfl (sp_take2 σ hσ (σ 19 3) (by omega)) (fun r6 σ7 hq8 => ?_)
      obtain ⟨rfl, rfl⟩ := hq8
      refine sw_blk k_X7_read 2 49 [(2, .inr (.inr 19)), (0, .inr (.inr 0)), (1, .inl 2)] [.inl ((sw_pf σ 13 (fun j : Nat => max 0 (min (σ 20 j) 99)) (σ 19 3).toNat) 19 3)] (sw_pf σ 13 (fun j : Nat => max 0 (min (σ 20 j) 99)) (σ 19 3).toNat) rfl ?_
      refine sw_ireturn k_X7_read rfl rfl ?_
      exact Or.inr (⟨by omega, rfl, rfl⟩)
    · refine sw_blk k_X7_read 2 26 [(2, .inr (.inr 19)), (0, .inr (.inr 0)), (1, .inl 2)] [.inl 1, .inr (.inr 0)] σ rfl ?_
      refine sw_callV k_X7_read rfl cV_X7_finding ml_X7_225 ⟨by decide, by decide⟩ 0 rfl rfl [.inl 1] [] rfl rfl (Nat.le_of_ble_eq_true rfl) 29 rfl (sp_finding σ 1) (fun r9 σ10 hq11 => ?_)
      obtain ⟨rfl, rfl⟩ := hq11
      refine sw_blk k_X7_read 0 29 [(2, .inr (.inr 19)), (0, .inr (.inr 0)), (1, .inl 2)] [.inl (-10 - 1)] (sw_u σ 0 9 1) rfl ?_
      refine sw_ireturn k_X7_read rfl rfl ?_
      exact Or.inl ⟨by omega, rfl, rfl⟩
  · exact absurd (by decide) p1
theorem cc_check2 (σ : sw_S) (hσ : sw_gs σ) (hD : 10 ≤ σ 1 0 ∧ σ 1 0 ≤ 400) (hV : 1 ≤ σ 1 1 ∧ σ 1 1 ≤ 20) (hA : 1 ≤ σ 1 2 ∧ σ 1 2 ≤ 5) (hL : ∀ x : Int, 0 ≤ x → x ≤ σ 1 0 → 1 ≤ σ 2 x.toNat ∧ σ 2 x.toNat ≤ σ 1 1) (hs0 : 0 ≤ σ 19 3) (hs1 : σ 19 3 ≤ 60) (hpl : 0 ≤ σ 5 7 ∧ σ 5 7 ≤ σ 1 0) : sw_Con sw_ly sw_rho M_X7_check [.inr (.inr 0), .inl 2] σ (fun r σ' => (¬ σ 5 9 = 0 ∧ r = some (.inl (-4)) ∧ σ = σ') ∨ ((σ 5 9 = 0 ∧ ¬ σ 19 1 = 0) ∧ r = some (.inl (-10 - 1)) ∧ sw_u σ 0 9 1 = σ') ∨ ((σ 5 9 = 0 ∧ σ 19 1 = 0) ∧ σ = σ' ∧ ∃ m : Nat, (m : Int) ≤ σ 19 3 ∧ (∀ j, j < m → sw_lw (σ 2) (σ 1 0) (σ 1 1) (σ 1 2) (σ 20) (σ 5 7) j) ∧ ((m : Int) < σ 19 3 → ¬ sw_lw (σ 2) (σ 1 0) (σ 1 1) (σ 1 2) (σ 20) (σ 5 7) m) ∧ r = some (.inl (if (m : Int) = σ 19 3 ∧ sw_abs (if σ 19 3 = 0 then 0 else σ 20 (σ 19 3 - 1).toNat) ≤ σ 1 2 then (m : Int) + 1000 else (m : Int))))) := by
  refine sw_con (by decide) (Nat.le_of_ble_eq_true rfl) ?_
  refine sw_blk k_X7_check 1 1 [(0, .inr (.inr 0)), (1, .inl 2)] [.inl 2] σ rfl ?_
  refine sw_callS k_X7_check rfl cS_X7_isSheet ml_X7_219 ⟨by decide, by decide⟩ [.inl 2] [] rfl rfl (Nat.le_of_ble_eq_true rfl) 4 rfl (sp_isSheet σ 2 (by decide)) (fun r2 σ3 hq4 => ?_)
  obtain ⟨rfl, ⟨p1, rfl⟩ | ⟨p1, rfl⟩⟩ := hq4
  · refine sw_blk k_X7_check 0 4 [(0, .inr (.inr 0)), (1, .inl 2)] [.inl 1] σ rfl ?_
    refine sw_if_ne k_X7_check rfl (by decide) 10 7 (by decide) rfl (fun _ => ?_) (fun c => absurd c (by decide))
    refine sw_blk k_X7_check 2 14 [(0, .inr (.inr 0)), (1, .inl 2)] [.inr (.inr 5)] σ rfl ?_
    refine sw_callV k_X7_check rfl cV_X6_rests ml_X7_67 ⟨by decide, by decide⟩ 5 rfl rfl [] [] rfl rfl (Nat.le_of_ble_eq_true rfl) 17 rfl (sp_rests σ  (hσ 5 _)) (fun r6 σ7 hq8 => ?_)
    obtain ⟨rfl, ⟨p5, rfl⟩ | ⟨p5, rfl⟩⟩ := hq8
    · refine sw_blk k_X7_check 0 17 [(0, .inr (.inr 0)), (1, .inl 2)] [.inl 1] σ rfl ?_
      refine sw_if_ne k_X7_check rfl (by decide) 23 20 (by decide) rfl (fun _ => ?_) (fun c => absurd c (by decide))
      refine sw_blk k_X7_check 3 28 [(0, .inr (.inr 0)), (1, .inl 2)] [.inl 2, .inr (.inr 14)] σ rfl ?_
      refine sw_aald k_X7_check rfl (i := 14) (n := 4) (r := 19) rfl (by decide) (by decide) (by decide) rfl 29 rfl ?_
      refine sw_blk k_X7_check 3 34 [(2, .inr (.inr 19)), (0, .inr (.inr 0)), (1, .inl 2)] [.inl (σ 19 1)] σ rfl ?_
      refine sw_if_eq k_X7_check rfl (hσ 19 _) 43 37 (by decide) rfl (fun c9 => ?_) (fun c9 => ?_)
      · refine sw_blk k_X7_check 9 62 [(2, .inr (.inr 19)), (0, .inr (.inr 0)), (1, .inl 2)] [.inl (σ 19 3), .inr (.inr 20), .inl (σ 5 7), .inr (.inr 1)] σ rfl ?_
        refine sw_callV k_X7_check rfl cV_X3_lawfulSpeeds ml_X7_270 ⟨by decide, by decide⟩ 1 rfl rfl [.inl (σ 5 7), .inr (.inr 20), .inl (σ 19 3)] [] rfl rfl (Nat.le_of_ble_eq_true rfl) 65 rfl (sp_lawful2 σ hσ hD hV hA hL (σ 5 7) (σ 19 3) hpl (by omega)) (fun r10 σ11 hq12 => ?_)
        obtain ⟨rfl, m, rfl, m1, m2, m3⟩ := hq12
        refine sw_blk k_X7_check 3 70 [(3, .inl (m : Int)), (2, .inr (.inr 19)), (0, .inr (.inr 0)), (1, .inl 2)] [.inl (σ 19 3)] σ rfl ?_
        refine sw_if_ne k_X7_check rfl (hσ 19 _) 77 73 (by decide) rfl (fun c13 => ?_) (fun c13 => ?_)
        · refine sw_blk k_X7_check 6 87 [(3, .inl (m : Int)), (2, .inr (.inr 19)), (0, .inr (.inr 0)), (1, .inl 2)] [.inl ((σ 19 3) - 1), .inr (.inr 20)] σ rfl ?_
          refine sw_iald k_X7_check rfl (i := 20) (n := 60) rfl (by decide) (by omega) (by omega) 88 rfl ?_
          refine sw_blk k_X7_check 4 95 [(4, .inl (σ 20 (((σ 19 3) - 1).toNat))), (3, .inl (m : Int)), (2, .inr (.inr 19)), (0, .inr (.inr 0)), (1, .inl 2)] [.inl (σ 19 3), .inl (m : Int)] σ rfl ?_
          refine sw_icmp_ne k_X7_check rfl (by omega) (hσ 19 _) 117 98 (by decide) rfl (fun c14 => ?_) (fun c14 => ?_)
          · refine sw_blk k_X7_check 3 122 [(5, .inl 0), (4, .inl (σ 20 (((σ 19 3) - 1).toNat))), (3, .inl (m : Int)), (2, .inr (.inr 19)), (0, .inr (.inr 0)), (1, .inl 2)] [.inl 0] σ rfl ?_
            refine sw_if_eq k_X7_check rfl (by decide) 133 125 (by decide) rfl (fun _ => ?_) (fun c => absurd (by decide) c)
            refine sw_blk k_X7_check 1 134 [(5, .inl 0), (4, .inl (σ 20 (((σ 19 3) - 1).toNat))), (3, .inl (m : Int)), (2, .inr (.inr 19)), (0, .inr (.inr 0)), (1, .inl 2)] [.inl (m : Int)] σ rfl ?_
            refine sw_ireturn k_X7_check rfl rfl ?_
            refine Or.inr (Or.inr ⟨by omega, rfl, m, m1, m2, m3, congrArg (fun z : Int => some (Sum.inl z)) ?_⟩)
            rw [if_neg (fun zz => ?_)]
            obtain ⟨z1, z2⟩ := zz
            first | omega | (rw [if_pos (by omega)] at z2; omega) | (rw [if_neg (by omega)] at z2; omega)
          · refine sw_blk k_X7_check 1 100 [(4, .inl (σ 20 (((σ 19 3) - 1).toNat))), (3, .inl (m : Int)), (2, .inr (.inr 19)), (0, .inr (.inr 0)), (1, .inl 2)] [.inl (σ 20 (((σ 19 3) - 1).toNat))] σ rfl ?_
            have gab : sw_g (σ 20 (((σ 19 3) - 1).toNat)) ∧ sw_g (sw_abs (σ 20 (((σ 19 3) - 1).toNat))) := by
              first
              | exact ⟨by decide, by decide⟩
              | (have hl := (m2 (σ 19 3 - 1).toNat (by omega)).2.1; constructor; exact hσ 20 _; unfold sw_abs at *; omega)
            refine sw_callS k_X7_check rfl cS_J9_abs_0f7a4 ml_X7_273 ⟨by decide, by decide⟩ [.inl (σ 20 (((σ 19 3) - 1).toNat))] [] rfl rfl (Nat.le_of_ble_eq_true rfl) 103 rfl (sp_abs σ (σ 20 (((σ 19 3) - 1).toNat)) gab.1) (fun r15 σ16 hq17 => ?_)
            obtain ⟨rfl, rfl⟩ := hq17
            refine sw_blk k_X7_check 3 110 [(4, .inl (σ 20 (((σ 19 3) - 1).toNat))), (3, .inl (m : Int)), (2, .inr (.inr 19)), (0, .inr (.inr 0)), (1, .inl 2)] [.inl (σ 1 2), .inl (sw_abs (σ 20 (((σ 19 3) - 1).toNat)))] σ rfl ?_
            refine sw_icmp_gt k_X7_check rfl gab.2 (hσ 1 _) 117 113 (by decide) rfl (fun c18 => ?_) (fun c18 => ?_)
            · refine sw_blk k_X7_check 3 122 [(5, .inl 0), (4, .inl (σ 20 (((σ 19 3) - 1).toNat))), (3, .inl (m : Int)), (2, .inr (.inr 19)), (0, .inr (.inr 0)), (1, .inl 2)] [.inl 0] σ rfl ?_
              refine sw_if_eq k_X7_check rfl (by decide) 133 125 (by decide) rfl (fun _ => ?_) (fun c => absurd (by decide) c)
              refine sw_blk k_X7_check 1 134 [(5, .inl 0), (4, .inl (σ 20 (((σ 19 3) - 1).toNat))), (3, .inl (m : Int)), (2, .inr (.inr 19)), (0, .inr (.inr 0)), (1, .inl 2)] [.inl (m : Int)] σ rfl ?_
              refine sw_ireturn k_X7_check rfl rfl ?_
              refine Or.inr (Or.inr ⟨by omega, rfl, m, m1, m2, m3, congrArg (fun z : Int => some (Sum.inl z)) ?_⟩)
              rw [if_neg (fun zz => ?_)]
              obtain ⟨z1, z2⟩ := zz
              first | omega | (rw [if_pos (by omega)] at z2; omega) | (rw [if_neg (by omega)] at z2; omega)
            · refine sw_blk k_X7_check 4 122 [(5, .inl 1), (4, .inl (σ 20 (((σ 19 3) - 1).toNat))), (3, .inl (m : Int)), (2, .inr (.inr 19)), (0, .inr (.inr 0)), (1, .inl 2)] [.inl 1] σ rfl ?_
              refine sw_if_eq k_X7_check rfl (by decide) 133 125 (by decide) rfl (fun c => absurd c (by decide)) (fun _ => ?_)
              refine sw_blk k_X7_check 4 134 [(5, .inl 1), (4, .inl (σ 20 (((σ 19 3) - 1).toNat))), (3, .inl (m : Int)), (2, .inr (.inr 19)), (0, .inr (.inr 0)), (1, .inl 2)] [.inl ((m : Int) + 1000)] σ rfl ?_
              refine sw_ireturn k_X7_check rfl rfl ?_
              refine Or.inr (Or.inr ⟨by omega, rfl, m, m1, m2, m3, congrArg (fun z : Int => some (Sum.inl z)) ?_⟩)
              rw [if_pos ⟨by omega, by first | (rw [if_pos (by omega)]; omega) | (rw [if_neg (by omega)]; omega)⟩]
        · refine sw_blk k_X7_check 6 95 [(4, .inl 0), (3, .inl (m : Int)), (2, .inr (.inr 19)), (0, .inr (.inr 0)), (1, .inl 2)] [.inl (σ 19 3), .inl (m : Int)] σ rfl ?_
          refine sw_icmp_ne k_X7_check rfl (by omega) (hσ 19 _) 117 98 (by decide) rfl (fun c19 => ?_) (fun c19 => ?_)
          · refine sw_blk k_X7_check 3 122 [(5, .inl 0), (4, .inl 0), (3, .inl (m : Int)), (2, .inr (.inr 19)), (0, .inr (.inr 0)), (1, .inl 2)] [.inl 0] σ rfl ?_
            refine sw_if_eq k_X7_check rfl (by decide) 133 125 (by decide) rfl (fun _ => ?_) (fun c => absurd (by decide) c)
            refine sw_blk k_X7_check 1 134 [(5, .inl 0), (4, .inl 0), (3, .inl (m : Int)), (2, .inr (.inr 19)), (0, .inr (.inr 0)), (1, .inl 2)] [.inl (m : Int)] σ rfl ?_
            refine sw_ireturn k_X7_check rfl rfl ?_
            refine Or.inr (Or.inr ⟨by omega, rfl, m, m1, m2, m3, congrArg (fun z : Int => some (Sum.inl z)) ?_⟩)
            rw [if_neg (fun zz => ?_)]
            obtain ⟨z1, z2⟩ := zz
            first | omega | (rw [if_pos (by omega)] at z2; omega) | (rw [if_neg (by omega)] at z2; omega)
          · refine sw_blk k_X7_check 1 100 [(4, .inl 0), (3, .inl (m : Int)), (2, .inr (.inr 19)), (0, .inr (.inr 0)), (1, .inl 2)] [.inl 0] σ rfl ?_
            have gab : sw_g 0 ∧ sw_g (sw_abs 0) := by
              first
              | exact ⟨by decide, by decide⟩
              | (have hl := (m2 (σ 19 3 - 1).toNat (by omega)).2.1; constructor; exact hσ 20 _; unfold sw_abs at *; omega)
            refine sw_callS k_X7_check rfl cS_J9_abs_0f7a4 ml_X7_273 ⟨by decide, by decide⟩ [.inl 0] [] rfl rfl (Nat.le_of_ble_eq_true rfl) 103 rfl (sp_abs σ 0 gab.1) (fun r20 σ21 hq22 => ?_)
            obtain ⟨rfl, rfl⟩ := hq22
            refine sw_blk k_X7_check 3 110 [(4, .inl 0), (3, .inl (m : Int)), (2, .inr (.inr 19)), (0, .inr (.inr 0)), (1, .inl 2)] [.inl (σ 1 2), .inl (sw_abs 0)] σ rfl ?_
            refine sw_icmp_gt k_X7_check rfl gab.2 (hσ 1 _) 117 113 (by decide) rfl (fun c23 => ?_) (fun c23 => ?_)
            · refine sw_blk k_X7_check 3 122 [(5, .inl 0), (4, .inl 0), (3, .inl (m : Int)), (2, .inr (.inr 19)), (0, .inr (.inr 0)), (1, .inl 2)] [.inl 0] σ rfl ?_
              refine sw_if_eq k_X7_check rfl (by decide) 133 125 (by decide) rfl (fun _ => ?_) (fun c => absurd (by decide) c)
              refine sw_blk k_X7_check 1 134 [(5, .inl 0), (4, .inl 0), (3, .inl (m : Int)), (2, .inr (.inr 19)), (0, .inr (.inr 0)), (1, .inl 2)] [.inl (m : Int)] σ rfl ?_
              refine sw_ireturn k_X7_check rfl rfl ?_
              refine Or.inr (Or.inr ⟨by omega, rfl, m, m1, m2, m3, congrArg (fun z : Int => some (Sum.inl z)) ?_⟩)
              rw [if_neg (fun zz => ?_)]
              obtain ⟨z1, z2⟩ := zz
              first | omega | (rw [if_pos (by omega)] at z2; omega) | (rw [if_neg (by omega)] at z2; omega)
            · refine sw_blk k_X7_check 4 122 [(5, .inl 1), (4, .inl 0), (3, .inl (m : Int)), (2, .inr (.inr 19)), (0, .inr (.inr 0)), (1, .inl 2)] [.inl 1] σ rfl ?_
              refine sw_if_eq k_X7_check rfl (by decide) 133 125 (by decide) rfl (fun c => absurd c (by decide)) (fun _ => ?_)
              refine sw_blk k_X7_check 4 134 [(5, .inl 1), (4, .inl 0), (3, .inl (m : Int)), (2, .inr (.inr 19)), (0, .inr (.inr 0)), (1, .inl 2)] [.inl ((m : Int) + 1000)] σ rfl ?_
              refine sw_ireturn k_X7_check rfl rfl ?_
              refine Or.inr (Or.inr ⟨by omega, rfl, m, m1, m2, m3, congrArg (fun z : Int => some (Sum.inl z)) ?_⟩)
              rw [if_pos ⟨by omega, by first | (rw [if_pos (by omega)]; omega) | (rw [if_neg (by omega)]; omega)⟩]
      · refine sw_blk k_X7_check 2 39 [(2, .inr (.inr 19)), (0, .inr (.inr 0)), (1, .inl 2)] [.inl 1, .inr (.inr 0)] σ rfl ?_
        refine sw_callV k_X7_check rfl cV_X7_finding ml_X7_225 ⟨by decide, by decide⟩ 0 rfl rfl [.inl 1] [] rfl rfl (Nat.le_of_ble_eq_true rfl) 42 rfl (sp_finding σ 1) (fun r24 σ25 hq26 => ?_)
        obtain ⟨rfl, rfl⟩ := hq26
        refine sw_blk k_X7_check 0 42 [(2, .inr (.inr 19)), (0, .inr (.inr 0)), (1, .inl 2)] [.inl (-10 - 1)] (sw_u σ 0 9 1) rfl ?_
        refine sw_ireturn k_X7_check rfl rfl ?_
        exact Or.inr (Or.inl ⟨by omega, rfl, rfl⟩)
    · refine sw_blk k_X7_check 0 17 [(0, .inr (.inr 0)), (1, .inl 2)] [.inl 0] σ rfl ?_
      refine sw_if_ne k_X7_check rfl (by decide) 23 20 (by decide) rfl (fun c => absurd (by decide) c) (fun _ => ?_)
      refine sw_blk k_X7_check 1 22 [(0, .inr (.inr 0)), (1, .inl 2)] [.inl (-4)] σ rfl ?_
      refine sw_ireturn k_X7_check rfl rfl ?_
      exact Or.inl ⟨by omega, rfl, rfl⟩
  · exact absurd (by decide) p1
theorem cc_sheet3 (σ : sw_S) (f k : Int) (gf : sw_g f) (gk : sw_g k) : sw_Con sw_ly sw_rho M_X7_sheet [.inr (.inr 0), .inl 3, .inl f, .inl k] σ (fun r σ' => (¬ ((0 ≤ f ∧ f ≤ 2) ∧ k ≤ 60) ∧ r = some (.inl (-2)) ∧ σ = σ') ∨ ((((0 ≤ f ∧ f ≤ 2) ∧ k ≤ 60) ∧ k < 0) ∧ r = some (.inl (-10 - 5)) ∧ (sw_u σ 0 9 5) = σ') ∨ ((((0 ≤ f ∧ f ≤ 2) ∧ k ≤ 60) ∧ 0 ≤ k) ∧ r = some (.inl (k)) ∧ (sw_fl (sw_u (sw_u (sw_u σ 21 2 f) 21 3 k) 21 1 0) 22 60 0) = σ')) := by
  refine sw_con (by decide) (Nat.le_of_ble_eq_true rfl) ?_
  refine sw_blk k_X7_sheet 1 1 [(0, .inr (.inr 0)), (1, .inl 3), (2, .inl f), (3, .inl k)] [.inl 3] σ rfl ?_
  refine sw_callS k_X7_sheet rfl cS_X7_isSheet ml_X7_219 ⟨by decide, by decide⟩ [.inl 3] [] rfl rfl (Nat.le_of_ble_eq_true rfl) 4 rfl (sp_isSheet σ 3 (by decide)) (fun r2 σ3 hq4 => ?_)
  obtain ⟨rfl, ⟨p1, rfl⟩ | ⟨p1, rfl⟩⟩ := hq4
  · refine sw_blk k_X7_sheet 0 4 [(0, .inr (.inr 0)), (1, .inl 3), (2, .inl f), (3, .inl k)] [.inl 1] σ rfl ?_
    refine sw_if_eq k_X7_sheet rfl (by decide) 20 7 (by decide) rfl (fun c => absurd c (by decide)) (fun _ => ?_)
    refine sw_blk k_X7_sheet 1 8 [(0, .inr (.inr 0)), (1, .inl 3), (2, .inl f), (3, .inl k)] [.inl f] σ rfl ?_
    refine sw_callS k_X7_sheet rfl cS_X7_isForm ml_X7_222 ⟨by decide, by decide⟩ [.inl f] [] rfl rfl (Nat.le_of_ble_eq_true rfl) 11 rfl (sp_isForm σ f (by omega)) (fun r6 σ7 hq8 => ?_)
    obtain ⟨rfl, ⟨p5, rfl⟩ | ⟨p5, rfl⟩⟩ := hq8
    · refine sw_blk k_X7_sheet 0 11 [(0, .inr (.inr 0)), (1, .inl 3), (2, .inl f), (3, .inl k)] [.inl 1] σ rfl ?_
      refine sw_if_eq k_X7_sheet rfl (by decide) 20 14 (by decide) rfl (fun c => absurd c (by decide)) (fun _ => ?_)
      refine sw_blk k_X7_sheet 2 17 [(0, .inr (.inr 0)), (1, .inl 3), (2, .inl f), (3, .inl k)] [.inl 60, .inl k] σ rfl ?_
      refine sw_icmp_le k_X7_sheet rfl (by omega) (by decide) 23 20 (by decide) rfl (fun c9 => ?_) (fun c9 => ?_)
      · refine sw_blk k_X7_sheet 1 24 [(0, .inr (.inr 0)), (1, .inl 3), (2, .inl f), (3, .inl k)] [.inl k] σ rfl ?_
        refine sw_if_ge k_X7_sheet rfl (by omega) 33 27 (by decide) rfl (fun c10 => ?_) (fun c10 => ?_)
        · refine sw_blk k_X7_sheet 3 38 [(0, .inr (.inr 0)), (1, .inl 3), (2, .inl f), (3, .inl k)] [.inl 3, .inr (.inr 14)] σ rfl ?_
          refine sw_aald k_X7_sheet rfl (i := 14) (n := 4) (r := 21) rfl (by decide) (by decide) (by decide) rfl 39 rfl ?_
          refine sw_blk k_X7_sheet 2 41 [(0, .inr (.inr 0)), (1, .inl 3), (2, .inl f), (3, .inl k)] [.inl k, .inl f, .inr (.inr 21)] σ rfl ?_
          refine sw_callV k_X7_sheet rfl cV_X4_renew ml_X7_228 ⟨by decide, by decide⟩ 21 rfl rfl [.inl f, .inl k] [] rfl rfl (Nat.le_of_ble_eq_true rfl) 44 rfl (sp_srenew3 σ f k) (fun r11 σ12 hq13 => ?_)
          obtain ⟨rfl, rfl⟩ := hq13
          refine sw_blk k_X7_sheet 1 45 [(0, .inr (.inr 0)), (1, .inl 3), (2, .inl f), (3, .inl k)] [.inl k] (sw_fl (sw_u (sw_u (sw_u σ 21 2 f) 21 3 k) 21 1 0) 22 60 0) rfl ?_
          refine sw_ireturn k_X7_sheet rfl rfl ?_
          exact Or.inr (Or.inr (⟨by omega, rfl, rfl⟩))
        · refine sw_blk k_X7_sheet 2 29 [(0, .inr (.inr 0)), (1, .inl 3), (2, .inl f), (3, .inl k)] [.inl 5, .inr (.inr 0)] σ rfl ?_
          refine sw_callV k_X7_sheet rfl cV_X7_finding ml_X7_225 ⟨by decide, by decide⟩ 0 rfl rfl [.inl 5] [] rfl rfl (Nat.le_of_ble_eq_true rfl) 32 rfl (sp_finding σ 5) (fun r14 σ15 hq16 => ?_)
          obtain ⟨rfl, rfl⟩ := hq16
          refine sw_blk k_X7_sheet 0 32 [(0, .inr (.inr 0)), (1, .inl 3), (2, .inl f), (3, .inl k)] [.inl (-10 - 5)] (sw_u σ 0 9 5) rfl ?_
          refine sw_ireturn k_X7_sheet rfl rfl ?_
          exact Or.inr (Or.inl ⟨by omega, rfl, rfl⟩)
      · refine sw_blk k_X7_sheet 1 22 [(0, .inr (.inr 0)), (1, .inl 3), (2, .inl f), (3, .inl k)] [.inl (-2)] σ rfl ?_
        refine sw_ireturn k_X7_sheet rfl rfl ?_
        exact Or.inl ⟨by omega, rfl, rfl⟩
    · refine sw_blk k_X7_sheet 0 11 [(0, .inr (.inr 0)), (1, .inl 3), (2, .inl f), (3, .inl k)] [.inl 0] σ rfl ?_
      refine sw_if_eq k_X7_sheet rfl (by decide) 20 14 (by decide) rfl (fun _ => ?_) (fun c => absurd (by decide) c)
      refine sw_blk k_X7_sheet 1 22 [(0, .inr (.inr 0)), (1, .inl 3), (2, .inl f), (3, .inl k)] [.inl (-2)] σ rfl ?_
      refine sw_ireturn k_X7_sheet rfl rfl ?_
      exact Or.inl ⟨by omega, rfl, rfl⟩
  · exact absurd (by decide) p1
theorem cc_lose3 (σ : sw_S) (hσ : sw_gs σ) : sw_Con sw_ly sw_rho M_X7_lose [.inr (.inr 0), .inl 3] σ (fun r σ' => (¬ σ 21 1 = 0 ∧ r = some (.inl (-10 - 1)) ∧ (sw_u σ 0 9 1) = σ') ∨ (σ 21 1 = 0 ∧ r = some (.inl (σ 21 3)) ∧ (sw_u σ 21 1 1) = σ')) := by
  refine sw_con (by decide) (Nat.le_of_ble_eq_true rfl) ?_
  refine sw_blk k_X7_lose 1 1 [(0, .inr (.inr 0)), (1, .inl 3)] [.inl 3] σ rfl ?_
  refine sw_callS k_X7_lose rfl cS_X7_isSheet ml_X7_219 ⟨by decide, by decide⟩ [.inl 3] [] rfl rfl (Nat.le_of_ble_eq_true rfl) 4 rfl (sp_isSheet σ 3 (by decide)) (fun r2 σ3 hq4 => ?_)
  obtain ⟨rfl, ⟨p1, rfl⟩ | ⟨p1, rfl⟩⟩ := hq4
  · refine sw_blk k_X7_lose 0 4 [(0, .inr (.inr 0)), (1, .inl 3)] [.inl 1] σ rfl ?_
    refine sw_if_ne k_X7_lose rfl (by decide) 10 7 (by decide) rfl (fun _ => ?_) (fun c => absurd c (by decide))
    refine sw_blk k_X7_lose 3 15 [(0, .inr (.inr 0)), (1, .inl 3)] [.inl 3, .inr (.inr 14)] σ rfl ?_
    refine sw_aald k_X7_lose rfl (i := 14) (n := 4) (r := 21) rfl (by decide) (by decide) (by decide) rfl 16 rfl ?_
    refine sw_blk k_X7_lose 3 21 [(2, .inr (.inr 21)), (0, .inr (.inr 0)), (1, .inl 3)] [.inl (σ 21 1)] σ rfl ?_
    refine sw_if_eq k_X7_lose rfl (hσ 21 _) 30 24 (by decide) rfl (fun c5 => ?_) (fun c5 => ?_)
    · refine sw_blk k_X7_lose 5 39 [(2, .inr (.inr 21)), (0, .inr (.inr 0)), (1, .inl 3)] [.inl (σ 21 3)] (sw_u σ 21 1 1) rfl ?_
      refine sw_ireturn k_X7_lose rfl rfl ?_
      exact Or.inr (⟨by omega, rfl, rfl⟩)
    · refine sw_blk k_X7_lose 2 26 [(2, .inr (.inr 21)), (0, .inr (.inr 0)), (1, .inl 3)] [.inl 1, .inr (.inr 0)] σ rfl ?_
      refine sw_callV k_X7_lose rfl cV_X7_finding ml_X7_225 ⟨by decide, by decide⟩ 0 rfl rfl [.inl 1] [] rfl rfl (Nat.le_of_ble_eq_true rfl) 29 rfl (sp_finding σ 1) (fun r6 σ7 hq8 => ?_)
      obtain ⟨rfl, rfl⟩ := hq8
      refine sw_blk k_X7_lose 0 29 [(2, .inr (.inr 21)), (0, .inr (.inr 0)), (1, .inl 3)] [.inl (-10 - 1)] (sw_u σ 0 9 1) rfl ?_
      refine sw_ireturn k_X7_lose rfl rfl ?_
      exact Or.inl ⟨by omega, rfl, rfl⟩
  · exact absurd (by decide) p1
theorem cc_put3 (σ : sw_S) (hσ : sw_gs σ) (hs0 : 0 ≤ σ 21 3) (hs1 : σ 21 3 ≤ 60) (hfm : 0 ≤ σ 21 2 ∧ σ 21 2 ≤ 2) (f i v : Int) (gf : sw_g f) (gi : sw_g i) (gv : sw_g v) : sw_Con sw_ly sw_rho M_X7_put [.inr (.inr 0), .inl 3, .inl f, .inl i, .inl v] σ (fun r σ' => (¬ (0 ≤ f ∧ f ≤ 2) ∧ r = some (.inl (-2)) ∧ σ = σ') ∨ ((0 ≤ f ∧ f ≤ 2) ∧ ∃ wr : Int, (if σ 21 1 = 0 then (if σ 21 2 = f then (if 0 ≤ i ∧ i < σ 21 3 then (0 : Int) else 2) else 3) else 1) = wr ∧ ((¬ wr = 0 ∧ r = some (.inl (-10 - wr)) ∧ sw_u σ 0 9 wr = σ') ∨ (wr = 0 ∧ r = some (.inl 1) ∧ sw_u σ 22 i.toNat (sw_cv (σ 21 2) v) = σ')))) := by
  refine sw_con (by decide) (Nat.le_of_ble_eq_true rfl) ?_
  refine sw_blk k_X7_put 1 1 [(0, .inr (.inr 0)), (1, .inl 3), (2, .inl f), (3, .inl i), (4, .inl v)] [.inl 3] σ rfl ?_
  refine sw_callS k_X7_put rfl cS_X7_isSheet ml_X7_219 ⟨by decide, by decide⟩ [.inl 3] [] rfl rfl (Nat.le_of_ble_eq_true rfl) 4 rfl (sp_isSheet σ 3 (by decide)) (fun r2 σ3 hq4 => ?_)
  obtain ⟨rfl, ⟨p1, rfl⟩ | ⟨p1, rfl⟩⟩ := hq4
  · refine sw_blk k_X7_put 0 4 [(0, .inr (.inr 0)), (1, .inl 3), (2, .inl f), (3, .inl i), (4, .inl v)] [.inl 1] σ rfl ?_
    refine sw_if_eq k_X7_put rfl (by decide) 14 7 (by decide) rfl (fun c => absurd c (by decide)) (fun _ => ?_)
    refine sw_blk k_X7_put 1 8 [(0, .inr (.inr 0)), (1, .inl 3), (2, .inl f), (3, .inl i), (4, .inl v)] [.inl f] σ rfl ?_
    refine sw_callS k_X7_put rfl cS_X7_isForm ml_X7_222 ⟨by decide, by decide⟩ [.inl f] [] rfl rfl (Nat.le_of_ble_eq_true rfl) 11 rfl (sp_isForm σ f (by omega)) (fun r6 σ7 hq8 => ?_)
    obtain ⟨rfl, ⟨p5, rfl⟩ | ⟨p5, rfl⟩⟩ := hq8
    · refine sw_blk k_X7_put 0 11 [(0, .inr (.inr 0)), (1, .inl 3), (2, .inl f), (3, .inl i), (4, .inl v)] [.inl 1] σ rfl ?_
      refine sw_if_ne k_X7_put rfl (by decide) 17 14 (by decide) rfl (fun _ => ?_) (fun c => absurd c (by decide))
      refine sw_blk k_X7_put 3 22 [(0, .inr (.inr 0)), (1, .inl 3), (2, .inl f), (3, .inl i), (4, .inl v)] [.inl 3, .inr (.inr 14)] σ rfl ?_
      refine sw_aald k_X7_put rfl (i := 14) (n := 4) (r := 21) rfl (by decide) (by decide) (by decide) rfl 23 rfl ?_
      refine sw_blk k_X7_put 4 29 [(5, .inr (.inr 21)), (0, .inr (.inr 0)), (1, .inl 3), (2, .inl f), (3, .inl i), (4, .inl v)] [.inl i, .inl f, .inr (.inr 21)] σ rfl ?_
      refine sw_callS k_X7_put rfl cS_X7_wrongOfItem ml_X7_237 ⟨by decide, by decide⟩ [.inr (.inr 21), .inl f, .inl i] [] rfl rfl (Nat.le_of_ble_eq_true rfl) 32 rfl (sp_wrong3 σ hσ f i (by omega) (by omega) hs0 hs1) (fun r9 σ10 hq11 => ?_)
      obtain ⟨rfl, rfl⟩ := hq11
      generalize hwr : (if σ 21 1 = 0 then (if σ 21 2 = f then (if 0 ≤ i ∧ i < σ 21 3 then (0 : Int) else 2) else 3) else 1) = wr
      have gwr : 0 ≤ wr ∧ wr ≤ 3 := by omega
      refine sw_blk k_X7_put 2 36 [(6, .inl wr), (5, .inr (.inr 21)), (0, .inr (.inr 0)), (1, .inl 3), (2, .inl f), (3, .inl i), (4, .inl v)] [.inl wr] σ rfl ?_
      refine sw_if_eq k_X7_put rfl (by omega) 46 39 (by decide) rfl (fun c12 => ?_) (fun c12 => ?_)
      · refine sw_blk k_X7_put 3 51 [(6, .inl wr), (5, .inr (.inr 21)), (0, .inr (.inr 0)), (1, .inl 3), (2, .inl f), (3, .inl i), (4, .inl v)] [.inl v, .inl i, .inr (.inr 21)] σ rfl ?_
        refine sw_callV k_X7_put rfl cV_X4_store ml_X7_241 ⟨by decide, by decide⟩ 21 rfl rfl [.inl i, .inl v] [] rfl rfl (Nat.le_of_ble_eq_true rfl) 54 rfl (sp_store3 σ hσ i v (by omega) hfm) (fun r13 σ14 hq15 => ?_)
        obtain ⟨rfl, rfl⟩ := hq15
        refine sw_blk k_X7_put 1 55 [(6, .inl wr), (5, .inr (.inr 21)), (0, .inr (.inr 0)), (1, .inl 3), (2, .inl f), (3, .inl i), (4, .inl v)] [.inl 1] (sw_u σ 22 i.toNat (if σ 21 2 = 0 then sw_b v else if σ 21 2 = 1 then sw_h v else v)) rfl ?_
        refine sw_ireturn k_X7_put rfl rfl ?_
        exact Or.inr ⟨by omega, wr, rfl, Or.inr ⟨by omega, rfl, rfl⟩⟩
      · refine sw_blk k_X7_put 2 42 [(6, .inl wr), (5, .inr (.inr 21)), (0, .inr (.inr 0)), (1, .inl 3), (2, .inl f), (3, .inl i), (4, .inl v)] [.inl wr, .inr (.inr 0)] σ rfl ?_
        refine sw_callV k_X7_put rfl cV_X7_finding ml_X7_225 ⟨by decide, by decide⟩ 0 rfl rfl [.inl wr] [] rfl rfl (Nat.le_of_ble_eq_true rfl) 45 rfl (sp_finding σ wr) (fun r16 σ17 hq18 => ?_)
        obtain ⟨rfl, rfl⟩ := hq18
        refine sw_blk k_X7_put 0 45 [(6, .inl wr), (5, .inr (.inr 21)), (0, .inr (.inr 0)), (1, .inl 3), (2, .inl f), (3, .inl i), (4, .inl v)] [.inl (-10 - wr)] (sw_u σ 0 9 wr) rfl ?_
        refine sw_ireturn k_X7_put rfl rfl ?_
        exact Or.inr ⟨by omega, wr, rfl, Or.inl ⟨by omega, rfl, rfl⟩⟩
    · refine sw_blk k_X7_put 0 11 [(0, .inr (.inr 0)), (1, .inl 3), (2, .inl f), (3, .inl i), (4, .inl v)] [.inl 0] σ rfl ?_
      refine sw_if_ne k_X7_put rfl (by decide) 17 14 (by decide) rfl (fun c => absurd (by decide) c) (fun _ => ?_)
      refine sw_blk k_X7_put 1 16 [(0, .inr (.inr 0)), (1, .inl 3), (2, .inl f), (3, .inl i), (4, .inl v)] [.inl (-2)] σ rfl ?_
      refine sw_ireturn k_X7_put rfl rfl ?_
      exact Or.inl ⟨by omega, rfl, rfl⟩
  · exact absurd (by decide) p1
theorem cc_get3 (σ : sw_S) (hσ : sw_gs σ) (hs0 : 0 ≤ σ 21 3) (hs1 : σ 21 3 ≤ 60) (f i : Int) (gf : sw_g f) (gi : sw_g i) : sw_Con sw_ly sw_rho M_X7_get [.inr (.inr 0), .inl 3, .inl f, .inl i] σ (fun r σ' => (¬ (0 ≤ f ∧ f ≤ 2) ∧ r = some (.inl (-2147483648)) ∧ σ = σ') ∨ ((0 ≤ f ∧ f ≤ 2) ∧ ∃ wr : Int, (if σ 21 1 = 0 then (if σ 21 2 = f then (if 0 ≤ i ∧ i < σ 21 3 then (0 : Int) else 2) else 3) else 1) = wr ∧ ((¬ wr = 0 ∧ r = some (.inl (-2147483648)) ∧ sw_u σ 0 9 wr = σ') ∨ (wr = 0 ∧ r = some (.inl (σ 22 i.toNat)) ∧ σ = σ')))) := by
  refine sw_con (by decide) (Nat.le_of_ble_eq_true rfl) ?_
  refine sw_blk k_X7_get 1 1 [(0, .inr (.inr 0)), (1, .inl 3), (2, .inl f), (3, .inl i)] [.inl 3] σ rfl ?_
  refine sw_callS k_X7_get rfl cS_X7_isSheet ml_X7_219 ⟨by decide, by decide⟩ [.inl 3] [] rfl rfl (Nat.le_of_ble_eq_true rfl) 4 rfl (sp_isSheet σ 3 (by decide)) (fun r2 σ3 hq4 => ?_)
  obtain ⟨rfl, ⟨p1, rfl⟩ | ⟨p1, rfl⟩⟩ := hq4
  · refine sw_blk k_X7_get 0 4 [(0, .inr (.inr 0)), (1, .inl 3), (2, .inl f), (3, .inl i)] [.inl 1] σ rfl ?_
    refine sw_if_eq k_X7_get rfl (by decide) 14 7 (by decide) rfl (fun c => absurd c (by decide)) (fun _ => ?_)
    refine sw_blk k_X7_get 1 8 [(0, .inr (.inr 0)), (1, .inl 3), (2, .inl f), (3, .inl i)] [.inl f] σ rfl ?_
    refine sw_callS k_X7_get rfl cS_X7_isForm ml_X7_222 ⟨by decide, by decide⟩ [.inl f] [] rfl rfl (Nat.le_of_ble_eq_true rfl) 11 rfl (sp_isForm σ f (by omega)) (fun r6 σ7 hq8 => ?_)
    obtain ⟨rfl, ⟨p5, rfl⟩ | ⟨p5, rfl⟩⟩ := hq8
    · refine sw_blk k_X7_get 0 11 [(0, .inr (.inr 0)), (1, .inl 3), (2, .inl f), (3, .inl i)] [.inl 1] σ rfl ?_
      refine sw_if_ne k_X7_get rfl (by decide) 17 14 (by decide) rfl (fun _ => ?_) (fun c => absurd c (by decide))
      refine sw_blk k_X7_get 3 22 [(0, .inr (.inr 0)), (1, .inl 3), (2, .inl f), (3, .inl i)] [.inl 3, .inr (.inr 14)] σ rfl ?_
      refine sw_aald k_X7_get rfl (i := 14) (n := 4) (r := 21) rfl (by decide) (by decide) (by decide) rfl 23 rfl ?_
      refine sw_blk k_X7_get 4 29 [(4, .inr (.inr 21)), (0, .inr (.inr 0)), (1, .inl 3), (2, .inl f), (3, .inl i)] [.inl i, .inl f, .inr (.inr 21)] σ rfl ?_
      refine sw_callS k_X7_get rfl cS_X7_wrongOfItem ml_X7_237 ⟨by decide, by decide⟩ [.inr (.inr 21), .inl f, .inl i] [] rfl rfl (Nat.le_of_ble_eq_true rfl) 32 rfl (sp_wrong3 σ hσ f i (by omega) (by omega) hs0 hs1) (fun r9 σ10 hq11 => ?_)
      obtain ⟨rfl, rfl⟩ := hq11
      generalize hwr : (if σ 21 1 = 0 then (if σ 21 2 = f then (if 0 ≤ i ∧ i < σ 21 3 then (0 : Int) else 2) else 3) else 1) = wr
      have gwr : 0 ≤ wr ∧ wr ≤ 3 := by omega
      refine sw_blk k_X7_get 2 36 [(5, .inl wr), (4, .inr (.inr 21)), (0, .inr (.inr 0)), (1, .inl 3), (2, .inl f), (3, .inl i)] [.inl wr] σ rfl ?_
      refine sw_if_eq k_X7_get rfl (by omega) 48 39 (by decide) rfl (fun c12 => ?_) (fun c12 => ?_)
      · refine sw_blk k_X7_get 3 54 [(5, .inl wr), (4, .inr (.inr 21)), (0, .inr (.inr 0)), (1, .inl 3), (2, .inl f), (3, .inl i)] [.inl i, .inr (.inr 22)] σ rfl ?_
        refine sw_iald k_X7_get rfl (i := 22) (n := 60) rfl (by decide) (by omega) (by omega) 55 rfl ?_
        refine sw_blk k_X7_get 0 55 [(5, .inl wr), (4, .inr (.inr 21)), (0, .inr (.inr 0)), (1, .inl 3), (2, .inl f), (3, .inl i)] [.inl (σ 22 i.toNat)] σ rfl ?_
        refine sw_ireturn k_X7_get rfl rfl ?_
        exact Or.inr ⟨by omega, wr, rfl, Or.inr ⟨by omega, rfl, rfl⟩⟩
      · refine sw_blk k_X7_get 4 47 [(5, .inl wr), (4, .inr (.inr 21)), (0, .inr (.inr 0)), (1, .inl 3), (2, .inl f), (3, .inl i)] [.inl (-2147483648)] (sw_u σ 0 9 wr) rfl ?_
        refine sw_ireturn k_X7_get rfl rfl ?_
        exact Or.inr ⟨by omega, wr, rfl, Or.inl ⟨by omega, rfl, rfl⟩⟩
    · refine sw_blk k_X7_get 0 11 [(0, .inr (.inr 0)), (1, .inl 3), (2, .inl f), (3, .inl i)] [.inl 0] σ rfl ?_
      refine sw_if_ne k_X7_get rfl (by decide) 17 14 (by decide) rfl (fun c => absurd (by decide) c) (fun _ => ?_)
      refine sw_blk k_X7_get 1 16 [(0, .inr (.inr 0)), (1, .inl 3), (2, .inl f), (3, .inl i)] [.inl (-2147483648)] σ rfl ?_
      refine sw_ireturn k_X7_get rfl rfl ?_
      exact Or.inl ⟨by omega, rfl, rfl⟩
  · exact absurd (by decide) p1
theorem cc_read3 (σ : sw_S) (hσ : sw_gs σ) (hs0 : 0 ≤ σ 21 3) (hs1 : σ 21 3 ≤ 60) : sw_Con sw_ly sw_rho M_X7_read [.inr (.inr 0), .inl 3] σ (fun r σ' => (¬ σ 21 1 = 0 ∧ r = some (.inl (-10 - 1)) ∧ (sw_u σ 0 9 1) = σ') ∨ (σ 21 1 = 0 ∧ r = some (.inl (σ 21 3)) ∧ (sw_pf σ 13 (fun j : Nat => max 0 (min (σ 22 j) 99)) (σ 21 3).toNat) = σ')) := by
  refine sw_con (by decide) (Nat.le_of_ble_eq_true rfl) ?_
  refine sw_blk k_X7_read 1 1 [(0, .inr (.inr 0)), (1, .inl 3)] [.inl 3] σ rfl ?_
  refine sw_callS k_X7_read rfl cS_X7_isSheet ml_X7_219 ⟨by decide, by decide⟩ [.inl 3] [] rfl rfl (Nat.le_of_ble_eq_true rfl) 4 rfl (sp_isSheet σ 3 (by decide)) (fun r2 σ3 hq4 => ?_)
  obtain ⟨rfl, ⟨p1, rfl⟩ | ⟨p1, rfl⟩⟩ := hq4
  · refine sw_blk k_X7_read 0 4 [(0, .inr (.inr 0)), (1, .inl 3)] [.inl 1] σ rfl ?_
    refine sw_if_ne k_X7_read rfl (by decide) 10 7 (by decide) rfl (fun _ => ?_) (fun c => absurd c (by decide))
    refine sw_blk k_X7_read 3 15 [(0, .inr (.inr 0)), (1, .inl 3)] [.inl 3, .inr (.inr 14)] σ rfl ?_
    refine sw_aald k_X7_read rfl (i := 14) (n := 4) (r := 21) rfl (by decide) (by decide) (by decide) rfl 16 rfl ?_
    refine sw_blk k_X7_read 3 21 [(2, .inr (.inr 21)), (0, .inr (.inr 0)), (1, .inl 3)] [.inl (σ 21 1)] σ rfl ?_
    refine sw_if_eq k_X7_read rfl (hσ 21 _) 30 24 (by decide) rfl (fun c5 => ?_) (fun c5 => ?_)
    · refine sw_blk k_X7_read 6 42 [(2, .inr (.inr 21)), (0, .inr (.inr 0)), (1, .inl 3)] [.inl (σ 21 3), .inr (.inr 22), .inr (.inr 12)] σ rfl ?_
      refine sw_callV k_X7_read rfl cV_X0_take ml_X7_261 ⟨by decide, by decide⟩ 12 rfl rfl [.inr (.inr 22), .inl (σ 21 3)] [] rfl rfl (Nat.le_of_ble_eq_true rfl) 45 rfl (sp_take3 σ hσ (σ 21 3) (by omega)) (fun r6 σ7 hq8 => ?_)
      obtain ⟨rfl, rfl⟩ := hq8
      refine sw_blk k_X7_read 2 49 [(2, .inr (.inr 21)), (0, .inr (.inr 0)), (1, .inl 3)] [.inl ((sw_pf σ 13 (fun j : Nat => max 0 (min (σ 22 j) 99)) (σ 21 3).toNat) 21 3)] (sw_pf σ 13 (fun j : Nat => max 0 (min (σ 22 j) 99)) (σ 21 3).toNat) rfl ?_
      refine sw_ireturn k_X7_read rfl rfl ?_
      exact Or.inr (⟨by omega, rfl, rfl⟩)
    · refine sw_blk k_X7_read 2 26 [(2, .inr (.inr 21)), (0, .inr (.inr 0)), (1, .inl 3)] [.inl 1, .inr (.inr 0)] σ rfl ?_
      refine sw_callV k_X7_read rfl cV_X7_finding ml_X7_225 ⟨by decide, by decide⟩ 0 rfl rfl [.inl 1] [] rfl rfl (Nat.le_of_ble_eq_true rfl) 29 rfl (sp_finding σ 1) (fun r9 σ10 hq11 => ?_)
      obtain ⟨rfl, rfl⟩ := hq11
      refine sw_blk k_X7_read 0 29 [(2, .inr (.inr 21)), (0, .inr (.inr 0)), (1, .inl 3)] [.inl (-10 - 1)] (sw_u σ 0 9 1) rfl ?_
      refine sw_ireturn k_X7_read rfl rfl ?_
      exact Or.inl ⟨by omega, rfl, rfl⟩
  · exact absurd (by decide) p1
theorem cc_check3 (σ : sw_S) (hσ : sw_gs σ) (hD : 10 ≤ σ 1 0 ∧ σ 1 0 ≤ 400) (hV : 1 ≤ σ 1 1 ∧ σ 1 1 ≤ 20) (hA : 1 ≤ σ 1 2 ∧ σ 1 2 ≤ 5) (hL : ∀ x : Int, 0 ≤ x → x ≤ σ 1 0 → 1 ≤ σ 2 x.toNat ∧ σ 2 x.toNat ≤ σ 1 1) (hs0 : 0 ≤ σ 21 3) (hs1 : σ 21 3 ≤ 60) (hpl : 0 ≤ σ 5 7 ∧ σ 5 7 ≤ σ 1 0) : sw_Con sw_ly sw_rho M_X7_check [.inr (.inr 0), .inl 3] σ (fun r σ' => (¬ σ 5 9 = 0 ∧ r = some (.inl (-4)) ∧ σ = σ') ∨ ((σ 5 9 = 0 ∧ ¬ σ 21 1 = 0) ∧ r = some (.inl (-10 - 1)) ∧ sw_u σ 0 9 1 = σ') ∨ ((σ 5 9 = 0 ∧ σ 21 1 = 0) ∧ σ = σ' ∧ ∃ m : Nat, (m : Int) ≤ σ 21 3 ∧ (∀ j, j < m → sw_lw (σ 2) (σ 1 0) (σ 1 1) (σ 1 2) (σ 22) (σ 5 7) j) ∧ ((m : Int) < σ 21 3 → ¬ sw_lw (σ 2) (σ 1 0) (σ 1 1) (σ 1 2) (σ 22) (σ 5 7) m) ∧ r = some (.inl (if (m : Int) = σ 21 3 ∧ sw_abs (if σ 21 3 = 0 then 0 else σ 22 (σ 21 3 - 1).toNat) ≤ σ 1 2 then (m : Int) + 1000 else (m : Int))))) := by
  refine sw_con (by decide) (Nat.le_of_ble_eq_true rfl) ?_
  refine sw_blk k_X7_check 1 1 [(0, .inr (.inr 0)), (1, .inl 3)] [.inl 3] σ rfl ?_
  refine sw_callS k_X7_check rfl cS_X7_isSheet ml_X7_219 ⟨by decide, by decide⟩ [.inl 3] [] rfl rfl (Nat.le_of_ble_eq_true rfl) 4 rfl (sp_isSheet σ 3 (by decide)) (fun r2 σ3 hq4 => ?_)
  obtain ⟨rfl, ⟨p1, rfl⟩ | ⟨p1, rfl⟩⟩ := hq4
  · refine sw_blk k_X7_check 0 4 [(0, .inr (.inr 0)), (1, .inl 3)] [.inl 1] σ rfl ?_
    refine sw_if_ne k_X7_check rfl (by decide) 10 7 (by decide) rfl (fun _ => ?_) (fun c => absurd c (by decide))
    refine sw_blk k_X7_check 2 14 [(0, .inr (.inr 0)), (1, .inl 3)] [.inr (.inr 5)] σ rfl ?_
    refine sw_callV k_X7_check rfl cV_X6_rests ml_X7_67 ⟨by decide, by decide⟩ 5 rfl rfl [] [] rfl rfl (Nat.le_of_ble_eq_true rfl) 17 rfl (sp_rests σ  (hσ 5 _)) (fun r6 σ7 hq8 => ?_)
    obtain ⟨rfl, ⟨p5, rfl⟩ | ⟨p5, rfl⟩⟩ := hq8
    · refine sw_blk k_X7_check 0 17 [(0, .inr (.inr 0)), (1, .inl 3)] [.inl 1] σ rfl ?_
      refine sw_if_ne k_X7_check rfl (by decide) 23 20 (by decide) rfl (fun _ => ?_) (fun c => absurd c (by decide))
      refine sw_blk k_X7_check 3 28 [(0, .inr (.inr 0)), (1, .inl 3)] [.inl 3, .inr (.inr 14)] σ rfl ?_
      refine sw_aald k_X7_check rfl (i := 14) (n := 4) (r := 21) rfl (by decide) (by decide) (by decide) rfl 29 rfl ?_
      refine sw_blk k_X7_check 3 34 [(2, .inr (.inr 21)), (0, .inr (.inr 0)), (1, .inl 3)] [.inl (σ 21 1)] σ rfl ?_
      refine sw_if_eq k_X7_check rfl (hσ 21 _) 43 37 (by decide) rfl (fun c9 => ?_) (fun c9 => ?_)
      · refine sw_blk k_X7_check 9 62 [(2, .inr (.inr 21)), (0, .inr (.inr 0)), (1, .inl 3)] [.inl (σ 21 3), .inr (.inr 22), .inl (σ 5 7), .inr (.inr 1)] σ rfl ?_
        refine sw_callV k_X7_check rfl cV_X3_lawfulSpeeds ml_X7_270 ⟨by decide, by decide⟩ 1 rfl rfl [.inl (σ 5 7), .inr (.inr 22), .inl (σ 21 3)] [] rfl rfl (Nat.le_of_ble_eq_true rfl) 65 rfl (sp_lawful3 σ hσ hD hV hA hL (σ 5 7) (σ 21 3) hpl (by omega)) (fun r10 σ11 hq12 => ?_)
        obtain ⟨rfl, m, rfl, m1, m2, m3⟩ := hq12
        refine sw_blk k_X7_check 3 70 [(3, .inl (m : Int)), (2, .inr (.inr 21)), (0, .inr (.inr 0)), (1, .inl 3)] [.inl (σ 21 3)] σ rfl ?_
        refine sw_if_ne k_X7_check rfl (hσ 21 _) 77 73 (by decide) rfl (fun c13 => ?_) (fun c13 => ?_)
        · refine sw_blk k_X7_check 6 87 [(3, .inl (m : Int)), (2, .inr (.inr 21)), (0, .inr (.inr 0)), (1, .inl 3)] [.inl ((σ 21 3) - 1), .inr (.inr 22)] σ rfl ?_
          refine sw_iald k_X7_check rfl (i := 22) (n := 60) rfl (by decide) (by omega) (by omega) 88 rfl ?_
          refine sw_blk k_X7_check 4 95 [(4, .inl (σ 22 (((σ 21 3) - 1).toNat))), (3, .inl (m : Int)), (2, .inr (.inr 21)), (0, .inr (.inr 0)), (1, .inl 3)] [.inl (σ 21 3), .inl (m : Int)] σ rfl ?_
          refine sw_icmp_ne k_X7_check rfl (by omega) (hσ 21 _) 117 98 (by decide) rfl (fun c14 => ?_) (fun c14 => ?_)
          · refine sw_blk k_X7_check 3 122 [(5, .inl 0), (4, .inl (σ 22 (((σ 21 3) - 1).toNat))), (3, .inl (m : Int)), (2, .inr (.inr 21)), (0, .inr (.inr 0)), (1, .inl 3)] [.inl 0] σ rfl ?_
            refine sw_if_eq k_X7_check rfl (by decide) 133 125 (by decide) rfl (fun _ => ?_) (fun c => absurd (by decide) c)
            refine sw_blk k_X7_check 1 134 [(5, .inl 0), (4, .inl (σ 22 (((σ 21 3) - 1).toNat))), (3, .inl (m : Int)), (2, .inr (.inr 21)), (0, .inr (.inr 0)), (1, .inl 3)] [.inl (m : Int)] σ rfl ?_
            refine sw_ireturn k_X7_check rfl rfl ?_
            refine Or.inr (Or.inr ⟨by omega, rfl, m, m1, m2, m3, congrArg (fun z : Int => some (Sum.inl z)) ?_⟩)
            rw [if_neg (fun zz => ?_)]
            obtain ⟨z1, z2⟩ := zz
            first | omega | (rw [if_pos (by omega)] at z2; omega) | (rw [if_neg (by omega)] at z2; omega)
          · refine sw_blk k_X7_check 1 100 [(4, .inl (σ 22 (((σ 21 3) - 1).toNat))), (3, .inl (m : Int)), (2, .inr (.inr 21)), (0, .inr (.inr 0)), (1, .inl 3)] [.inl (σ 22 (((σ 21 3) - 1).toNat))] σ rfl ?_
            have gab : sw_g (σ 22 (((σ 21 3) - 1).toNat)) ∧ sw_g (sw_abs (σ 22 (((σ 21 3) - 1).toNat))) := by
              first
              | exact ⟨by decide, by decide⟩
              | (have hl := (m2 (σ 21 3 - 1).toNat (by omega)).2.1; constructor; exact hσ 22 _; unfold sw_abs at *; omega)
            refine sw_callS k_X7_check rfl cS_J9_abs_0f7a4 ml_X7_273 ⟨by decide, by decide⟩ [.inl (σ 22 (((σ 21 3) - 1).toNat))] [] rfl rfl (Nat.le_of_ble_eq_true rfl) 103 rfl (sp_abs σ (σ 22 (((σ 21 3) - 1).toNat)) gab.1) (fun r15 σ16 hq17 => ?_)
            obtain ⟨rfl, rfl⟩ := hq17
            refine sw_blk k_X7_check 3 110 [(4, .inl (σ 22 (((σ 21 3) - 1).toNat))), (3, .inl (m : Int)), (2, .inr (.inr 21)), (0, .inr (.inr 0)), (1, .inl 3)] [.inl (σ 1 2), .inl (sw_abs (σ 22 (((σ 21 3) - 1).toNat)))] σ rfl ?_
            refine sw_icmp_gt k_X7_check rfl gab.2 (hσ 1 _) 117 113 (by decide) rfl (fun c18 => ?_) (fun c18 => ?_)
            · refine sw_blk k_X7_check 3 122 [(5, .inl 0), (4, .inl (σ 22 (((σ 21 3) - 1).toNat))), (3, .inl (m : Int)), (2, .inr (.inr 21)), (0, .inr (.inr 0)), (1, .inl 3)] [.inl 0] σ rfl ?_
              refine sw_if_eq k_X7_check rfl (by decide) 133 125 (by decide) rfl (fun _ => ?_) (fun c => absurd (by decide) c)
              refine sw_blk k_X7_check 1 134 [(5, .inl 0), (4, .inl (σ 22 (((σ 21 3) - 1).toNat))), (3, .inl (m : Int)), (2, .inr (.inr 21)), (0, .inr (.inr 0)), (1, .inl 3)] [.inl (m : Int)] σ rfl ?_
              refine sw_ireturn k_X7_check rfl rfl ?_
              refine Or.inr (Or.inr ⟨by omega, rfl, m, m1, m2, m3, congrArg (fun z : Int => some (Sum.inl z)) ?_⟩)
              rw [if_neg (fun zz => ?_)]
              obtain ⟨z1, z2⟩ := zz
              first | omega | (rw [if_pos (by omega)] at z2; omega) | (rw [if_neg (by omega)] at z2; omega)
            · refine sw_blk k_X7_check 4 122 [(5, .inl 1), (4, .inl (σ 22 (((σ 21 3) - 1).toNat))), (3, .inl (m : Int)), (2, .inr (.inr 21)), (0, .inr (.inr 0)), (1, .inl 3)] [.inl 1] σ rfl ?_
              refine sw_if_eq k_X7_check rfl (by decide) 133 125 (by decide) rfl (fun c => absurd c (by decide)) (fun _ => ?_)
              refine sw_blk k_X7_check 4 134 [(5, .inl 1), (4, .inl (σ 22 (((σ 21 3) - 1).toNat))), (3, .inl (m : Int)), (2, .inr (.inr 21)), (0, .inr (.inr 0)), (1, .inl 3)] [.inl ((m : Int) + 1000)] σ rfl ?_
              refine sw_ireturn k_X7_check rfl rfl ?_
              refine Or.inr (Or.inr ⟨by omega, rfl, m, m1, m2, m3, congrArg (fun z : Int => some (Sum.inl z)) ?_⟩)
              rw [if_pos ⟨by omega, by first | (rw [if_pos (by omega)]; omega) | (rw [if_neg (by omega)]; omega)⟩]
        · refine sw_blk k_X7_check 6 95 [(4, .inl 0), (3, .inl (m : Int)), (2, .inr (.inr 21)), (0, .inr (.inr 0)), (1, .inl 3)] [.inl (σ 21 3), .inl (m : Int)] σ rfl ?_
          refine sw_icmp_ne k_X7_check rfl (by omega) (hσ 21 _) 117 98 (by decide) rfl (fun c19 => ?_) (fun c19 => ?_)
          · refine sw_blk k_X7_check 3 122 [(5, .inl 0), (4, .inl 0), (3, .inl (m : Int)), (2, .inr (.inr 21)), (0, .inr (.inr 0)), (1, .inl 3)] [.inl 0] σ rfl ?_
            refine sw_if_eq k_X7_check rfl (by decide) 133 125 (by decide) rfl (fun _ => ?_) (fun c => absurd (by decide) c)
            refine sw_blk k_X7_check 1 134 [(5, .inl 0), (4, .inl 0), (3, .inl (m : Int)), (2, .inr (.inr 21)), (0, .inr (.inr 0)), (1, .inl 3)] [.inl (m : Int)] σ rfl ?_
            refine sw_ireturn k_X7_check rfl rfl ?_
            refine Or.inr (Or.inr ⟨by omega, rfl, m, m1, m2, m3, congrArg (fun z : Int => some (Sum.inl z)) ?_⟩)
            rw [if_neg (fun zz => ?_)]
            obtain ⟨z1, z2⟩ := zz
            first | omega | (rw [if_pos (by omega)] at z2; omega) | (rw [if_neg (by omega)] at z2; omega)
          · refine sw_blk k_X7_check 1 100 [(4, .inl 0), (3, .inl (m : Int)), (2, .inr (.inr 21)), (0, .inr (.inr 0)), (1, .inl 3)] [.inl 0] σ rfl ?_
            have gab : sw_g 0 ∧ sw_g (sw_abs 0) := by
              first
              | exact ⟨by decide, by decide⟩
              | (have hl := (m2 (σ 21 3 - 1).toNat (by omega)).2.1; constructor; exact hσ 22 _; unfold sw_abs at *; omega)
            refine sw_callS k_X7_check rfl cS_J9_abs_0f7a4 ml_X7_273 ⟨by decide, by decide⟩ [.inl 0] [] rfl rfl (Nat.le_of_ble_eq_true rfl) 103 rfl (sp_abs σ 0 gab.1) (fun r20 σ21 hq22 => ?_)
            obtain ⟨rfl, rfl⟩ := hq22
            refine sw_blk k_X7_check 3 110 [(4, .inl 0), (3, .inl (m : Int)), (2, .inr (.inr 21)), (0, .inr (.inr 0)), (1, .inl 3)] [.inl (σ 1 2), .inl (sw_abs 0)] σ rfl ?_
            refine sw_icmp_gt k_X7_check rfl gab.2 (hσ 1 _) 117 113 (by decide) rfl (fun c23 => ?_) (fun c23 => ?_)
            · refine sw_blk k_X7_check 3 122 [(5, .inl 0), (4, .inl 0), (3, .inl (m : Int)), (2, .inr (.inr 21)), (0, .inr (.inr 0)), (1, .inl 3)] [.inl 0] σ rfl ?_
              refine sw_if_eq k_X7_check rfl (by decide) 133 125 (by decide) rfl (fun _ => ?_) (fun c => absurd (by decide) c)
              refine sw_blk k_X7_check 1 134 [(5, .inl 0), (4, .inl 0), (3, .inl (m : Int)), (2, .inr (.inr 21)), (0, .inr (.inr 0)), (1, .inl 3)] [.inl (m : Int)] σ rfl ?_
              refine sw_ireturn k_X7_check rfl rfl ?_
              refine Or.inr (Or.inr ⟨by omega, rfl, m, m1, m2, m3, congrArg (fun z : Int => some (Sum.inl z)) ?_⟩)
              rw [if_neg (fun zz => ?_)]
              obtain ⟨z1, z2⟩ := zz
              first | omega | (rw [if_pos (by omega)] at z2; omega) | (rw [if_neg (by omega)] at z2; omega)
            · refine sw_blk k_X7_check 4 122 [(5, .inl 1), (4, .inl 0), (3, .inl (m : Int)), (2, .inr (.inr 21)), (0, .inr (.inr 0)), (1, .inl 3)] [.inl 1] σ rfl ?_
              refine sw_if_eq k_X7_check rfl (by decide) 133 125 (by decide) rfl (fun c => absurd c (by decide)) (fun _ => ?_)
              refine sw_blk k_X7_check 4 134 [(5, .inl 1), (4, .inl 0), (3, .inl (m : Int)), (2, .inr (.inr 21)), (0, .inr (.inr 0)), (1, .inl 3)] [.inl ((m : Int) + 1000)] σ rfl ?_
              refine sw_ireturn k_X7_check rfl rfl ?_
              refine Or.inr (Or.inr ⟨by omega, rfl, m, m1, m2, m3, congrArg (fun z : Int => some (Sum.inl z)) ?_⟩)
              rw [if_pos ⟨by omega, by first | (rw [if_pos (by omega)]; omega) | (rw [if_neg (by omega)]; omega)⟩]
      · refine sw_blk k_X7_check 2 39 [(2, .inr (.inr 21)), (0, .inr (.inr 0)), (1, .inl 3)] [.inl 1, .inr (.inr 0)] σ rfl ?_
        refine sw_callV k_X7_check rfl cV_X7_finding ml_X7_225 ⟨by decide, by decide⟩ 0 rfl rfl [.inl 1] [] rfl rfl (Nat.le_of_ble_eq_true rfl) 42 rfl (sp_finding σ 1) (fun r24 σ25 hq26 => ?_)
        obtain ⟨rfl, rfl⟩ := hq26
        refine sw_blk k_X7_check 0 42 [(2, .inr (.inr 21)), (0, .inr (.inr 0)), (1, .inl 3)] [.inl (-10 - 1)] (sw_u σ 0 9 1) rfl ?_
        refine sw_ireturn k_X7_check rfl rfl ?_
        exact Or.inr (Or.inl ⟨by omega, rfl, rfl⟩)
    · refine sw_blk k_X7_check 0 17 [(0, .inr (.inr 0)), (1, .inl 3)] [.inl 0] σ rfl ?_
      refine sw_if_ne k_X7_check rfl (by decide) 23 20 (by decide) rfl (fun c => absurd (by decide) c) (fun _ => ?_)
      refine sw_blk k_X7_check 1 22 [(0, .inr (.inr 0)), (1, .inl 3)] [.inl (-4)] σ rfl ?_
      refine sw_ireturn k_X7_check rfl rfl ?_
      exact Or.inl ⟨by omega, rfl, rfl⟩
  · exact absurd (by decide) p1
