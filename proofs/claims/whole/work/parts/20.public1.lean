theorem cc_shaft (σ : sw_S) (hσ : sw_gs σ) (d v a : Int) (gd : sw_g d) (gv : sw_g v) (ga : sw_g a) : sw_Con sw_ly sw_rho M_X7_shaft [.inr (.inr 0), .inl d, .inl v, .inl a] σ (fun r σ' => (¬ ((10 ≤ d ∧ d ≤ 400) ∧ (1 ≤ v ∧ v ≤ 20) ∧ (1 ≤ a ∧ a ≤ 5)) ∧ r = some (.inl (-2)) ∧ σ = σ') ∨ ((((10 ≤ d ∧ d ≤ 400) ∧ (1 ≤ v ∧ v ≤ 20) ∧ (1 ≤ a ∧ a ≤ 5)) ∧ ¬ σ 5 9 = 0) ∧ r = some (.inl (-4)) ∧ σ = σ') ∨ ((((10 ≤ d ∧ d ≤ 400) ∧ (1 ≤ v ∧ v ≤ 20) ∧ (1 ≤ a ∧ a ≤ 5)) ∧ σ 5 9 = 0) ∧ r = some (.inl (1)) ∧ (sw_u (sw_u (sw_u (sw_fl (sw_u (sw_u (sw_u (sw_u σ 1 0 d) 1 1 v) 1 2 a) 1 3 0) 2 401 v) 3 2 (-1)) 0 8 0) 5 7 0) = σ')) := by
  refine sw_con (by decide) (Nat.le_of_ble_eq_true rfl) ?_
  refine sw_blk k_X7_shaft 3 6 [(0, .inr (.inr 0)), (1, .inl d), (2, .inl v), (3, .inl a)] [.inl 400, .inl 10, .inl d] σ rfl ?_
  refine sw_callS k_X7_shaft rfl cS_X7_within ml_X7_63 ⟨by decide, by decide⟩ [.inl d, .inl 10, .inl 400] [] rfl rfl (Nat.le_of_ble_eq_true rfl) 9 rfl (sp_within σ d 10 400 (by omega) (by decide) (by decide)) (fun r2 σ3 hq4 => ?_)
  obtain ⟨rfl, ⟨p1, rfl⟩ | ⟨p1, rfl⟩⟩ := hq4
  · refine sw_blk k_X7_shaft 0 9 [(0, .inr (.inr 0)), (1, .inl d), (2, .inl v), (3, .inl a)] [.inl 1] σ rfl ?_
    refine sw_if_eq k_X7_shaft rfl (by decide) 31 12 (by decide) rfl (fun c => absurd c (by decide)) (fun _ => ?_)
    refine sw_blk k_X7_shaft 3 16 [(0, .inr (.inr 0)), (1, .inl d), (2, .inl v), (3, .inl a)] [.inl 20, .inl 1, .inl v] σ rfl ?_
    refine sw_callS k_X7_shaft rfl cS_X7_within ml_X7_63 ⟨by decide, by decide⟩ [.inl v, .inl 1, .inl 20] [] rfl rfl (Nat.le_of_ble_eq_true rfl) 19 rfl (sp_within σ v 1 20 (by omega) (by decide) (by decide)) (fun r6 σ7 hq8 => ?_)
    obtain ⟨rfl, ⟨p5, rfl⟩ | ⟨p5, rfl⟩⟩ := hq8
    · refine sw_blk k_X7_shaft 0 19 [(0, .inr (.inr 0)), (1, .inl d), (2, .inl v), (3, .inl a)] [.inl 1] σ rfl ?_
      refine sw_if_eq k_X7_shaft rfl (by decide) 31 22 (by decide) rfl (fun c => absurd c (by decide)) (fun _ => ?_)
      refine sw_blk k_X7_shaft 3 25 [(0, .inr (.inr 0)), (1, .inl d), (2, .inl v), (3, .inl a)] [.inl 5, .inl 1, .inl a] σ rfl ?_
      refine sw_callS k_X7_shaft rfl cS_X7_within ml_X7_63 ⟨by decide, by decide⟩ [.inl a, .inl 1, .inl 5] [] rfl rfl (Nat.le_of_ble_eq_true rfl) 28 rfl (sp_within σ a 1 5 (by omega) (by decide) (by decide)) (fun r10 σ11 hq12 => ?_)
      obtain ⟨rfl, ⟨p9, rfl⟩ | ⟨p9, rfl⟩⟩ := hq12
      · refine sw_blk k_X7_shaft 0 28 [(0, .inr (.inr 0)), (1, .inl d), (2, .inl v), (3, .inl a)] [.inl 1] σ rfl ?_
        refine sw_if_ne k_X7_shaft rfl (by decide) 34 31 (by decide) rfl (fun _ => ?_) (fun c => absurd c (by decide))
        refine sw_blk k_X7_shaft 2 38 [(0, .inr (.inr 0)), (1, .inl d), (2, .inl v), (3, .inl a)] [.inr (.inr 5)] σ rfl ?_
        refine sw_callV k_X7_shaft rfl cV_X6_rests ml_X7_67 ⟨by decide, by decide⟩ 5 rfl rfl [] [] rfl rfl (Nat.le_of_ble_eq_true rfl) 41 rfl (sp_rests σ  (hσ 5 _)) (fun r14 σ15 hq16 => ?_)
        obtain ⟨rfl, ⟨p13, rfl⟩ | ⟨p13, rfl⟩⟩ := hq16
        · refine sw_blk k_X7_shaft 0 41 [(0, .inr (.inr 0)), (1, .inl d), (2, .inl v), (3, .inl a)] [.inl 1] σ rfl ?_
          refine sw_if_ne k_X7_shaft rfl (by decide) 47 44 (by decide) rfl (fun _ => ?_) (fun c => absurd c (by decide))
          refine sw_blk k_X7_shaft 5 54 [(0, .inr (.inr 0)), (1, .inl d), (2, .inl v), (3, .inl a)] [.inl a, .inl v, .inl d, .inr (.inr 1)] σ rfl ?_
          refine sw_callV k_X7_shaft rfl cV_X3_renew ml_X7_71 ⟨by decide, by decide⟩ 1 rfl rfl [.inl d, .inl v, .inl a] [] rfl rfl (Nat.le_of_ble_eq_true rfl) 57 rfl (sp_renew σ d v a) (fun r17 σ18 hq19 => ?_)
          obtain ⟨rfl, rfl⟩ := hq19
          refine sw_blk k_X7_shaft 2 61 [(0, .inr (.inr 0)), (1, .inl d), (2, .inl v), (3, .inl a)] [.inr (.inr 3)] (sw_fl (sw_u (sw_u (sw_u (sw_u σ 1 0 d) 1 1 v) 1 2 a) 1 3 0) 2 401 v) rfl ?_
          refine sw_callV k_X7_shaft rfl cV_X1_forget ml_X7_75 ⟨by decide, by decide⟩ 3 rfl rfl [] [] rfl rfl (Nat.le_of_ble_eq_true rfl) 64 rfl (sp_forget (sw_fl (sw_u (sw_u (sw_u (sw_u σ 1 0 d) 1 1 v) 1 2 a) 1 3 0) 2 401 v)  ) (fun r20 σ21 hq22 => ?_)
          obtain ⟨rfl, rfl⟩ := hq22
          refine sw_blk k_X7_shaft 8 78 [(0, .inr (.inr 0)), (1, .inl d), (2, .inl v), (3, .inl a)] [.inl 1] (sw_u (sw_u (sw_u (sw_fl (sw_u (sw_u (sw_u (sw_u σ 1 0 d) 1 1 v) 1 2 a) 1 3 0) 2 401 v) 3 2 (-1)) 0 8 0) 5 7 0) rfl ?_
          refine sw_ireturn k_X7_shaft rfl rfl ?_
          exact Or.inr (Or.inr (⟨by omega, rfl, rfl⟩))
        · refine sw_blk k_X7_shaft 0 41 [(0, .inr (.inr 0)), (1, .inl d), (2, .inl v), (3, .inl a)] [.inl 0] σ rfl ?_
          refine sw_if_ne k_X7_shaft rfl (by decide) 47 44 (by decide) rfl (fun c => absurd (by decide) c) (fun _ => ?_)
          refine sw_blk k_X7_shaft 1 46 [(0, .inr (.inr 0)), (1, .inl d), (2, .inl v), (3, .inl a)] [.inl (-4)] σ rfl ?_
          refine sw_ireturn k_X7_shaft rfl rfl ?_
          exact Or.inr (Or.inl ⟨by omega, rfl, rfl⟩)
      · refine sw_blk k_X7_shaft 0 28 [(0, .inr (.inr 0)), (1, .inl d), (2, .inl v), (3, .inl a)] [.inl 0] σ rfl ?_
        refine sw_if_ne k_X7_shaft rfl (by decide) 34 31 (by decide) rfl (fun c => absurd (by decide) c) (fun _ => ?_)
        refine sw_blk k_X7_shaft 1 33 [(0, .inr (.inr 0)), (1, .inl d), (2, .inl v), (3, .inl a)] [.inl (-2)] σ rfl ?_
        refine sw_ireturn k_X7_shaft rfl rfl ?_
        exact Or.inl ⟨by omega, rfl, rfl⟩
    · refine sw_blk k_X7_shaft 0 19 [(0, .inr (.inr 0)), (1, .inl d), (2, .inl v), (3, .inl a)] [.inl 0] σ rfl ?_
      refine sw_if_eq k_X7_shaft rfl (by decide) 31 22 (by decide) rfl (fun _ => ?_) (fun c => absurd (by decide) c)
      refine sw_blk k_X7_shaft 1 33 [(0, .inr (.inr 0)), (1, .inl d), (2, .inl v), (3, .inl a)] [.inl (-2)] σ rfl ?_
      refine sw_ireturn k_X7_shaft rfl rfl ?_
      exact Or.inl ⟨by omega, rfl, rfl⟩
  · refine sw_blk k_X7_shaft 0 9 [(0, .inr (.inr 0)), (1, .inl d), (2, .inl v), (3, .inl a)] [.inl 0] σ rfl ?_
    refine sw_if_eq k_X7_shaft rfl (by decide) 31 12 (by decide) rfl (fun _ => ?_) (fun c => absurd (by decide) c)
    refine sw_blk k_X7_shaft 1 33 [(0, .inr (.inr 0)), (1, .inl d), (2, .inl v), (3, .inl a)] [.inl (-2)] σ rfl ?_
    refine sw_ireturn k_X7_shaft rfl rfl ?_
    exact Or.inl ⟨by omega, rfl, rfl⟩
theorem cc_stop (σ : sw_S) (hσ : sw_gs σ) (p c : Int) (gp : sw_g p) (gc : sw_g c) (hst : 0 ≤ σ 0 8 ∧ σ 0 8 ≤ 6) : sw_Con sw_ly sw_rho M_X7_stop [.inr (.inr 0), .inl p, .inl c] σ (fun r σ' => (¬ ((0 ≤ p ∧ p ≤ σ 1 0) ∧ (1 ≤ c ∧ c ≤ 9)) ∧ r = some (.inl (-2)) ∧ σ = σ') ∨ ((((0 ≤ p ∧ p ≤ σ 1 0) ∧ (1 ≤ c ∧ c ≤ 9)) ∧ 6 ≤ σ 0 8) ∧ r = some (.inl (-3)) ∧ σ = σ') ∨ ((((0 ≤ p ∧ p ≤ σ 1 0) ∧ (1 ≤ c ∧ c ≤ 9)) ∧ σ 0 8 < 6) ∧ r = some (.inl (σ 0 8 + 1 - 1)) ∧ (sw_u (sw_u (sw_u σ 23 (σ 0 8).toNat p) 24 (σ 0 8).toNat c) 0 8 (σ 0 8 + 1)) = σ')) := by
  refine sw_con (by decide) (Nat.le_of_ble_eq_true rfl) ?_
  refine sw_blk k_X7_stop 3 5 [(0, .inr (.inr 0)), (1, .inl p), (2, .inl c)] [.inl p, .inr (.inr 1)] σ rfl ?_
  refine sw_callV k_X7_stop rfl cV_X3_has ml_X7_85 ⟨by decide, by decide⟩ 1 rfl rfl [.inl p] [] rfl rfl (Nat.le_of_ble_eq_true rfl) 8 rfl (sp_has σ p (by omega) (hσ 1 0)) (fun r2 σ3 hq4 => ?_)
  obtain ⟨rfl, ⟨p1, rfl⟩ | ⟨p1, rfl⟩⟩ := hq4
  · have p1 : 0 ≤ p ∧ p ≤ (σ 1 0) := p1
    refine sw_blk k_X7_stop 0 8 [(0, .inr (.inr 0)), (1, .inl p), (2, .inl c)] [.inl 1] σ rfl ?_
    refine sw_if_eq k_X7_stop rfl (by decide) 21 11 (by decide) rfl (fun c => absurd c (by decide)) (fun _ => ?_)
    refine sw_blk k_X7_stop 3 15 [(0, .inr (.inr 0)), (1, .inl p), (2, .inl c)] [.inl 9, .inl 1, .inl c] σ rfl ?_
    refine sw_callS k_X7_stop rfl cS_X7_within ml_X7_63 ⟨by decide, by decide⟩ [.inl c, .inl 1, .inl 9] [] rfl rfl (Nat.le_of_ble_eq_true rfl) 18 rfl (sp_within σ c 1 9 (by omega) (by decide) (by decide)) (fun r6 σ7 hq8 => ?_)
    obtain ⟨rfl, ⟨p5, rfl⟩ | ⟨p5, rfl⟩⟩ := hq8
    · refine sw_blk k_X7_stop 0 18 [(0, .inr (.inr 0)), (1, .inl p), (2, .inl c)] [.inl 1] σ rfl ?_
      refine sw_if_ne k_X7_stop rfl (by decide) 24 21 (by decide) rfl (fun _ => ?_) (fun c => absurd c (by decide))
      refine sw_blk k_X7_stop 3 30 [(0, .inr (.inr 0)), (1, .inl p), (2, .inl c)] [.inl 6, .inl (σ 0 8)] σ rfl ?_
      refine sw_icmp_lt k_X7_stop rfl (hσ 0 _) (by decide) 36 33 (by decide) rfl (fun c9 => ?_) (fun c9 => ?_)
      · refine sw_blk k_X7_stop 5 45 [(0, .inr (.inr 0)), (1, .inl p), (2, .inl c)] [.inl p, .inl (σ 0 8), .inr (.inr 23)] σ rfl ?_
        refine sw_iast k_X7_stop rfl (i := 23) (n := 6) rfl (by decide) (by omega) (by omega) 46 rfl ?_
        refine sw_blk k_X7_stop 5 55 [(0, .inr (.inr 0)), (1, .inl p), (2, .inl c)] [.inl c, .inl (σ 0 8), .inr (.inr 24)] (sw_u σ 23 ((σ 0 8).toNat) p) rfl ?_
        refine sw_iast k_X7_stop rfl (i := 24) (n := 6) rfl (by decide) (by omega) (by omega) 56 rfl ?_
        refine sw_blk k_X7_stop 10 72 [(0, .inr (.inr 0)), (1, .inl p), (2, .inl c)] [.inl (((σ 0 8) + 1) - 1)] (sw_u (sw_u (sw_u σ 23 ((σ 0 8).toNat) p) 24 ((σ 0 8).toNat) c) 0 8 ((σ 0 8) + 1)) rfl ?_
        refine sw_ireturn k_X7_stop rfl rfl ?_
        exact Or.inr (Or.inr (⟨by omega, rfl, rfl⟩))
      · refine sw_blk k_X7_stop 1 35 [(0, .inr (.inr 0)), (1, .inl p), (2, .inl c)] [.inl (-3)] σ rfl ?_
        refine sw_ireturn k_X7_stop rfl rfl ?_
        exact Or.inr (Or.inl ⟨by omega, rfl, rfl⟩)
    · refine sw_blk k_X7_stop 0 18 [(0, .inr (.inr 0)), (1, .inl p), (2, .inl c)] [.inl 0] σ rfl ?_
      refine sw_if_ne k_X7_stop rfl (by decide) 24 21 (by decide) rfl (fun c => absurd (by decide) c) (fun _ => ?_)
      refine sw_blk k_X7_stop 1 23 [(0, .inr (.inr 0)), (1, .inl p), (2, .inl c)] [.inl (-2)] σ rfl ?_
      refine sw_ireturn k_X7_stop rfl rfl ?_
      exact Or.inl ⟨by omega, rfl, rfl⟩
  · have p1 : ¬ (0 ≤ p ∧ p ≤ (σ 1 0)) := p1
    refine sw_blk k_X7_stop 0 8 [(0, .inr (.inr 0)), (1, .inl p), (2, .inl c)] [.inl 0] σ rfl ?_
    refine sw_if_eq k_X7_stop rfl (by decide) 21 11 (by decide) rfl (fun _ => ?_) (fun c => absurd (by decide) c)
    refine sw_blk k_X7_stop 1 23 [(0, .inr (.inr 0)), (1, .inl p), (2, .inl c)] [.inl (-2)] σ rfl ?_
    refine sw_ireturn k_X7_stop rfl rfl ?_
    exact Or.inl ⟨by omega, rfl, rfl⟩
theorem cc_ring (σ : sw_S) (k : Int) (gk : sw_g k) : sw_Con sw_ly sw_rho M_X7_ring [.inr (.inr 0), .inl k] σ (fun r σ' => (¬ (1 ≤ k ∧ k ≤ 9) ∧ r = some (.inl (-2)) ∧ σ = σ') ∨ ((1 ≤ k ∧ k ≤ 9) ∧ r = some (.inl (1)) ∧ (sw_u σ 5 10 k) = σ')) := by
  refine sw_con (by decide) (Nat.le_of_ble_eq_true rfl) ?_
  refine sw_blk k_X7_ring 3 4 [(0, .inr (.inr 0)), (1, .inl k)] [.inl 9, .inl 1, .inl k] σ rfl ?_
  refine sw_callS k_X7_ring rfl cS_X7_within ml_X7_63 ⟨by decide, by decide⟩ [.inl k, .inl 1, .inl 9] [] rfl rfl (Nat.le_of_ble_eq_true rfl) 7 rfl (sp_within σ k 1 9 (by omega) (by decide) (by decide)) (fun r2 σ3 hq4 => ?_)
  obtain ⟨rfl, ⟨p1, rfl⟩ | ⟨p1, rfl⟩⟩ := hq4
  · refine sw_blk k_X7_ring 0 7 [(0, .inr (.inr 0)), (1, .inl k)] [.inl 1] σ rfl ?_
    refine sw_if_ne k_X7_ring rfl (by decide) 13 10 (by decide) rfl (fun _ => ?_) (fun c => absurd c (by decide))
    refine sw_blk k_X7_ring 5 22 [(0, .inr (.inr 0)), (1, .inl k)] [.inl 1] (sw_u σ 5 10 k) rfl ?_
    refine sw_ireturn k_X7_ring rfl rfl ?_
    exact Or.inr (⟨by omega, rfl, rfl⟩)
  · refine sw_blk k_X7_ring 0 7 [(0, .inr (.inr 0)), (1, .inl k)] [.inl 0] σ rfl ?_
    refine sw_if_ne k_X7_ring rfl (by decide) 13 10 (by decide) rfl (fun c => absurd (by decide) c) (fun _ => ?_)
    refine sw_blk k_X7_ring 1 12 [(0, .inr (.inr 0)), (1, .inl k)] [.inl (-2)] σ rfl ?_
    refine sw_ireturn k_X7_ring rfl rfl ?_
    exact Or.inl ⟨by omega, rfl, rfl⟩
theorem cc_link (σ : sw_S) (l c : Int) (gl : sw_g l) (gc : sw_g c) : sw_Con sw_ly sw_rho M_X7_link [.inr (.inr 0), .inl l, .inl c] σ (fun r σ' => (¬ ((0 ≤ l ∧ l ≤ 7)) ∧ r = some (.inl (-2)) ∧ σ = σ') ∨ ((((0 ≤ l ∧ l ≤ 7)) ∧ c = 0) ∧ r = some (.inl (1)) ∧ (sw_u σ 8 l.toNat 1) = σ') ∨ ((((0 ≤ l ∧ l ≤ 7)) ∧ ¬ c = 0) ∧ r = some (.inl (1)) ∧ (sw_u σ 8 l.toNat 0) = σ')) := by
  refine sw_con (by decide) (Nat.le_of_ble_eq_true rfl) ?_
  refine sw_blk k_X7_link 3 4 [(0, .inr (.inr 0)), (1, .inl l), (2, .inl c)] [.inl 7, .inl 0, .inl l] σ rfl ?_
  refine sw_callS k_X7_link rfl cS_X7_within ml_X7_63 ⟨by decide, by decide⟩ [.inl l, .inl 0, .inl 7] [] rfl rfl (Nat.le_of_ble_eq_true rfl) 7 rfl (sp_within σ l 0 7 (by omega) (by decide) (by decide)) (fun r2 σ3 hq4 => ?_)
  obtain ⟨rfl, ⟨p1, rfl⟩ | ⟨p1, rfl⟩⟩ := hq4
  · refine sw_blk k_X7_link 0 7 [(0, .inr (.inr 0)), (1, .inl l), (2, .inl c)] [.inl 1] σ rfl ?_
    refine sw_if_ne k_X7_link rfl (by decide) 13 10 (by decide) rfl (fun _ => ?_) (fun c => absurd c (by decide))
    refine sw_blk k_X7_link 5 22 [(0, .inr (.inr 0)), (1, .inl l), (2, .inl c)] [.inl c, .inl l, .inr (.inr 8)] σ rfl ?_
    refine sw_if_ne k_X7_link rfl (by omega) 29 25 (by decide) rfl (fun c5 => ?_) (fun c5 => ?_)
    · refine sw_blk k_X7_link 1 30 [(0, .inr (.inr 0)), (1, .inl l), (2, .inl c)] [.inl 0, .inl l, .inr (.inr 8)] σ rfl ?_
      refine sw_zast k_X7_link rfl (i := 8) (n := 8) rfl (by decide) (by omega) (by omega) (by decide) 31 rfl ?_
      refine sw_blk k_X7_link 1 32 [(0, .inr (.inr 0)), (1, .inl l), (2, .inl c)] [.inl 1] (sw_u σ 8 l.toNat 0) rfl ?_
      refine sw_ireturn k_X7_link rfl rfl ?_
      exact Or.inr (Or.inr (⟨by omega, rfl, rfl⟩))
    · refine sw_blk k_X7_link 2 30 [(0, .inr (.inr 0)), (1, .inl l), (2, .inl c)] [.inl 1, .inl l, .inr (.inr 8)] σ rfl ?_
      refine sw_zast k_X7_link rfl (i := 8) (n := 8) rfl (by decide) (by omega) (by omega) (by decide) 31 rfl ?_
      refine sw_blk k_X7_link 1 32 [(0, .inr (.inr 0)), (1, .inl l), (2, .inl c)] [.inl 1] (sw_u σ 8 l.toNat 1) rfl ?_
      refine sw_ireturn k_X7_link rfl rfl ?_
      exact Or.inr (Or.inl ⟨by omega, rfl, rfl⟩)
  · refine sw_blk k_X7_link 0 7 [(0, .inr (.inr 0)), (1, .inl l), (2, .inl c)] [.inl 0] σ rfl ?_
    refine sw_if_ne k_X7_link rfl (by decide) 13 10 (by decide) rfl (fun c => absurd (by decide) c) (fun _ => ?_)
    refine sw_blk k_X7_link 1 12 [(0, .inr (.inr 0)), (1, .inl l), (2, .inl c)] [.inl (-2)] σ rfl ?_
    refine sw_ireturn k_X7_link rfl rfl ?_
    exact Or.inl ⟨by omega, rfl, rfl⟩
theorem cc_error (σ : sw_S) (s e : Int) (gs : sw_g s) (ge : sw_g e) : sw_Con sw_ly sw_rho M_X7_error [.inr (.inr 0), .inl s, .inl e] σ (fun r σ' => (¬ ((0 ≤ s ∧ s ≤ 2) ∧ (-1000 ≤ e ∧ e ≤ 1000)) ∧ r = some (.inl (-2)) ∧ σ = σ') ∨ (((0 ≤ s ∧ s ≤ 2) ∧ (-1000 ≤ e ∧ e ≤ 1000)) ∧ r = some (.inl (1)) ∧ (sw_u σ 9 s.toNat e) = σ')) := by
  refine sw_con (by decide) (Nat.le_of_ble_eq_true rfl) ?_
  refine sw_blk k_X7_error 3 3 [(0, .inr (.inr 0)), (1, .inl s), (2, .inl e)] [.inl 2, .inl 0, .inl s] σ rfl ?_
  refine sw_callS k_X7_error rfl cS_X7_within ml_X7_63 ⟨by decide, by decide⟩ [.inl s, .inl 0, .inl 2] [] rfl rfl (Nat.le_of_ble_eq_true rfl) 6 rfl (sp_within σ s 0 2 (by omega) (by decide) (by decide)) (fun r2 σ3 hq4 => ?_)
  obtain ⟨rfl, ⟨p1, rfl⟩ | ⟨p1, rfl⟩⟩ := hq4
  · refine sw_blk k_X7_error 0 6 [(0, .inr (.inr 0)), (1, .inl s), (2, .inl e)] [.inl 1] σ rfl ?_
    refine sw_if_eq k_X7_error rfl (by decide) 22 9 (by decide) rfl (fun c => absurd c (by decide)) (fun _ => ?_)
    refine sw_blk k_X7_error 3 16 [(0, .inr (.inr 0)), (1, .inl s), (2, .inl e)] [.inl 1000, .inl (-1000), .inl e] σ rfl ?_
    refine sw_callS k_X7_error rfl cS_X7_within ml_X7_63 ⟨by decide, by decide⟩ [.inl e, .inl (-1000), .inl 1000] [] rfl rfl (Nat.le_of_ble_eq_true rfl) 19 rfl (sp_within σ e (-1000) 1000 (by omega) (by decide) (by decide)) (fun r6 σ7 hq8 => ?_)
    obtain ⟨rfl, ⟨p5, rfl⟩ | ⟨p5, rfl⟩⟩ := hq8
    · refine sw_blk k_X7_error 0 19 [(0, .inr (.inr 0)), (1, .inl s), (2, .inl e)] [.inl 1] σ rfl ?_
      refine sw_if_ne k_X7_error rfl (by decide) 25 22 (by decide) rfl (fun _ => ?_) (fun c => absurd c (by decide))
      refine sw_blk k_X7_error 5 34 [(0, .inr (.inr 0)), (1, .inl s), (2, .inl e)] [.inl e, .inl s, .inr (.inr 9)] σ rfl ?_
      refine sw_iast k_X7_error rfl (i := 9) (n := 3) rfl (by decide) (by omega) (by omega) 35 rfl ?_
      refine sw_blk k_X7_error 1 36 [(0, .inr (.inr 0)), (1, .inl s), (2, .inl e)] [.inl 1] (sw_u σ 9 s.toNat e) rfl ?_
      refine sw_ireturn k_X7_error rfl rfl ?_
      exact Or.inr (⟨by omega, rfl, rfl⟩)
    · refine sw_blk k_X7_error 0 19 [(0, .inr (.inr 0)), (1, .inl s), (2, .inl e)] [.inl 0] σ rfl ?_
      refine sw_if_ne k_X7_error rfl (by decide) 25 22 (by decide) rfl (fun c => absurd (by decide) c) (fun _ => ?_)
      refine sw_blk k_X7_error 1 24 [(0, .inr (.inr 0)), (1, .inl s), (2, .inl e)] [.inl (-2)] σ rfl ?_
      refine sw_ireturn k_X7_error rfl rfl ?_
      exact Or.inl ⟨by omega, rfl, rfl⟩
  · refine sw_blk k_X7_error 0 6 [(0, .inr (.inr 0)), (1, .inl s), (2, .inl e)] [.inl 0] σ rfl ?_
    refine sw_if_eq k_X7_error rfl (by decide) 22 9 (by decide) rfl (fun _ => ?_) (fun c => absurd (by decide) c)
    refine sw_blk k_X7_error 1 24 [(0, .inr (.inr 0)), (1, .inl s), (2, .inl e)] [.inl (-2)] σ rfl ?_
    refine sw_ireturn k_X7_error rfl rfl ?_
    exact Or.inl ⟨by omega, rfl, rfl⟩
theorem cc_guard (σ : sw_S) (m b : Int) (gm : sw_g m) (gb : sw_g b) : sw_Con sw_ly sw_rho M_X7_guard [.inr (.inr 0), .inl m, .inl b] σ (fun r σ' => (¬ ((0 ≤ m ∧ m ≤ 20) ∧ (1 ≤ b ∧ b ≤ 10)) ∧ r = some (.inl (-2)) ∧ σ = σ') ∨ (((0 ≤ m ∧ m ≤ 20) ∧ (1 ≤ b ∧ b ≤ 10)) ∧ r = some (.inl (1)) ∧ (sw_u (sw_u σ 5 11 m) 5 12 b) = σ')) := by
  refine sw_con (by decide) (Nat.le_of_ble_eq_true rfl) ?_
  refine sw_blk k_X7_guard 3 4 [(0, .inr (.inr 0)), (1, .inl m), (2, .inl b)] [.inl 20, .inl 0, .inl m] σ rfl ?_
  refine sw_callS k_X7_guard rfl cS_X7_within ml_X7_63 ⟨by decide, by decide⟩ [.inl m, .inl 0, .inl 20] [] rfl rfl (Nat.le_of_ble_eq_true rfl) 7 rfl (sp_within σ m 0 20 (by omega) (by decide) (by decide)) (fun r2 σ3 hq4 => ?_)
  obtain ⟨rfl, ⟨p1, rfl⟩ | ⟨p1, rfl⟩⟩ := hq4
  · refine sw_blk k_X7_guard 0 7 [(0, .inr (.inr 0)), (1, .inl m), (2, .inl b)] [.inl 1] σ rfl ?_
    refine sw_if_eq k_X7_guard rfl (by decide) 20 10 (by decide) rfl (fun c => absurd c (by decide)) (fun _ => ?_)
    refine sw_blk k_X7_guard 3 14 [(0, .inr (.inr 0)), (1, .inl m), (2, .inl b)] [.inl 10, .inl 1, .inl b] σ rfl ?_
    refine sw_callS k_X7_guard rfl cS_X7_within ml_X7_63 ⟨by decide, by decide⟩ [.inl b, .inl 1, .inl 10] [] rfl rfl (Nat.le_of_ble_eq_true rfl) 17 rfl (sp_within σ b 1 10 (by omega) (by decide) (by decide)) (fun r6 σ7 hq8 => ?_)
    obtain ⟨rfl, ⟨p5, rfl⟩ | ⟨p5, rfl⟩⟩ := hq8
    · refine sw_blk k_X7_guard 0 17 [(0, .inr (.inr 0)), (1, .inl m), (2, .inl b)] [.inl 1] σ rfl ?_
      refine sw_if_ne k_X7_guard rfl (by decide) 23 20 (by decide) rfl (fun _ => ?_) (fun c => absurd c (by decide))
      refine sw_blk k_X7_guard 9 40 [(0, .inr (.inr 0)), (1, .inl m), (2, .inl b)] [.inl 1] (sw_u (sw_u σ 5 11 m) 5 12 b) rfl ?_
      refine sw_ireturn k_X7_guard rfl rfl ?_
      exact Or.inr (⟨by omega, rfl, rfl⟩)
    · refine sw_blk k_X7_guard 0 17 [(0, .inr (.inr 0)), (1, .inl m), (2, .inl b)] [.inl 0] σ rfl ?_
      refine sw_if_ne k_X7_guard rfl (by decide) 23 20 (by decide) rfl (fun c => absurd (by decide) c) (fun _ => ?_)
      refine sw_blk k_X7_guard 1 22 [(0, .inr (.inr 0)), (1, .inl m), (2, .inl b)] [.inl (-2)] σ rfl ?_
      refine sw_ireturn k_X7_guard rfl rfl ?_
      exact Or.inl ⟨by omega, rfl, rfl⟩
  · refine sw_blk k_X7_guard 0 7 [(0, .inr (.inr 0)), (1, .inl m), (2, .inl b)] [.inl 0] σ rfl ?_
    refine sw_if_eq k_X7_guard rfl (by decide) 20 10 (by decide) rfl (fun _ => ?_) (fun c => absurd (by decide) c)
    refine sw_blk k_X7_guard 1 22 [(0, .inr (.inr 0)), (1, .inl m), (2, .inl b)] [.inl (-2)] σ rfl ?_
    refine sw_ireturn k_X7_guard rfl rfl ?_
    exact Or.inl ⟨by omega, rfl, rfl⟩
theorem cc_loads (σ : sw_S) (a b w : Int) (ga : sw_g a) (gb : sw_g b) (gw : sw_g w) : sw_Con sw_ly sw_rho M_X7_loads [.inr (.inr 0), .inl a, .inl b, .inl w] σ (fun r σ' => (¬ ((0 ≤ a ∧ a ≤ 1000) ∧ (0 ≤ b ∧ b ≤ 1000) ∧ (0 ≤ w ∧ w ≤ 10)) ∧ r = some (.inl (-2)) ∧ σ = σ') ∨ (((0 ≤ a ∧ a ≤ 1000) ∧ (0 ≤ b ∧ b ≤ 1000) ∧ (0 ≤ w ∧ w ≤ 10)) ∧ r = some (.inl (1)) ∧ (sw_u (sw_u (sw_u σ 11 1 a) 11 2 b) 11 3 w) = σ')) := by
  refine sw_con (by decide) (Nat.le_of_ble_eq_true rfl) ?_
  refine sw_blk k_X7_loads 3 5 [(0, .inr (.inr 0)), (1, .inl a), (2, .inl b), (3, .inl w)] [.inl 1000, .inl 0, .inl a] σ rfl ?_
  refine sw_callS k_X7_loads rfl cS_X7_within ml_X7_63 ⟨by decide, by decide⟩ [.inl a, .inl 0, .inl 1000] [] rfl rfl (Nat.le_of_ble_eq_true rfl) 8 rfl (sp_within σ a 0 1000 (by omega) (by decide) (by decide)) (fun r2 σ3 hq4 => ?_)
  obtain ⟨rfl, ⟨p1, rfl⟩ | ⟨p1, rfl⟩⟩ := hq4
  · refine sw_blk k_X7_loads 0 8 [(0, .inr (.inr 0)), (1, .inl a), (2, .inl b), (3, .inl w)] [.inl 1] σ rfl ?_
    refine sw_if_eq k_X7_loads rfl (by decide) 32 11 (by decide) rfl (fun c => absurd c (by decide)) (fun _ => ?_)
    refine sw_blk k_X7_loads 3 16 [(0, .inr (.inr 0)), (1, .inl a), (2, .inl b), (3, .inl w)] [.inl 1000, .inl 0, .inl b] σ rfl ?_
    refine sw_callS k_X7_loads rfl cS_X7_within ml_X7_63 ⟨by decide, by decide⟩ [.inl b, .inl 0, .inl 1000] [] rfl rfl (Nat.le_of_ble_eq_true rfl) 19 rfl (sp_within σ b 0 1000 (by omega) (by decide) (by decide)) (fun r6 σ7 hq8 => ?_)
    obtain ⟨rfl, ⟨p5, rfl⟩ | ⟨p5, rfl⟩⟩ := hq8
    · refine sw_blk k_X7_loads 0 19 [(0, .inr (.inr 0)), (1, .inl a), (2, .inl b), (3, .inl w)] [.inl 1] σ rfl ?_
      refine sw_if_eq k_X7_loads rfl (by decide) 32 22 (by decide) rfl (fun c => absurd c (by decide)) (fun _ => ?_)
      refine sw_blk k_X7_loads 3 26 [(0, .inr (.inr 0)), (1, .inl a), (2, .inl b), (3, .inl w)] [.inl 10, .inl 0, .inl w] σ rfl ?_
      refine sw_callS k_X7_loads rfl cS_X7_within ml_X7_63 ⟨by decide, by decide⟩ [.inl w, .inl 0, .inl 10] [] rfl rfl (Nat.le_of_ble_eq_true rfl) 29 rfl (sp_within σ w 0 10 (by omega) (by decide) (by decide)) (fun r10 σ11 hq12 => ?_)
      obtain ⟨rfl, ⟨p9, rfl⟩ | ⟨p9, rfl⟩⟩ := hq12
      · refine sw_blk k_X7_loads 0 29 [(0, .inr (.inr 0)), (1, .inl a), (2, .inl b), (3, .inl w)] [.inl 1] σ rfl ?_
        refine sw_if_ne k_X7_loads rfl (by decide) 35 32 (by decide) rfl (fun _ => ?_) (fun c => absurd c (by decide))
        refine sw_blk k_X7_loads 13 60 [(0, .inr (.inr 0)), (1, .inl a), (2, .inl b), (3, .inl w)] [.inl 1] (sw_u (sw_u (sw_u σ 11 1 a) 11 2 b) 11 3 w) rfl ?_
        refine sw_ireturn k_X7_loads rfl rfl ?_
        exact Or.inr (⟨by omega, rfl, rfl⟩)
      · refine sw_blk k_X7_loads 0 29 [(0, .inr (.inr 0)), (1, .inl a), (2, .inl b), (3, .inl w)] [.inl 0] σ rfl ?_
        refine sw_if_ne k_X7_loads rfl (by decide) 35 32 (by decide) rfl (fun c => absurd (by decide) c) (fun _ => ?_)
        refine sw_blk k_X7_loads 1 34 [(0, .inr (.inr 0)), (1, .inl a), (2, .inl b), (3, .inl w)] [.inl (-2)] σ rfl ?_
        refine sw_ireturn k_X7_loads rfl rfl ?_
        exact Or.inl ⟨by omega, rfl, rfl⟩
    · refine sw_blk k_X7_loads 0 19 [(0, .inr (.inr 0)), (1, .inl a), (2, .inl b), (3, .inl w)] [.inl 0] σ rfl ?_
      refine sw_if_eq k_X7_loads rfl (by decide) 32 22 (by decide) rfl (fun _ => ?_) (fun c => absurd (by decide) c)
      refine sw_blk k_X7_loads 1 34 [(0, .inr (.inr 0)), (1, .inl a), (2, .inl b), (3, .inl w)] [.inl (-2)] σ rfl ?_
      refine sw_ireturn k_X7_loads rfl rfl ?_
      exact Or.inl ⟨by omega, rfl, rfl⟩
  · refine sw_blk k_X7_loads 0 8 [(0, .inr (.inr 0)), (1, .inl a), (2, .inl b), (3, .inl w)] [.inl 0] σ rfl ?_
    refine sw_if_eq k_X7_loads rfl (by decide) 32 11 (by decide) rfl (fun _ => ?_) (fun c => absurd (by decide) c)
    refine sw_blk k_X7_loads 1 34 [(0, .inr (.inr 0)), (1, .inl a), (2, .inl b), (3, .inl w)] [.inl (-2)] σ rfl ?_
    refine sw_ireturn k_X7_loads rfl rfl ?_
    exact Or.inl ⟨by omega, rfl, rfl⟩
theorem cc_ratio (σ : sw_S) (h : Int) (gh : sw_g h) : sw_Con sw_ly sw_rho M_X7_ratio [.inr (.inr 0), .inl h] σ (fun r σ' => (¬ (100 ≤ h ∧ h ≤ 400) ∧ r = some (.inl (-2)) ∧ σ = σ') ∨ ((100 ≤ h ∧ h ≤ 400) ∧ r = some (.inl (σ 11 4)) ∧ (sw_u σ 11 4 h) = σ')) := by
  refine sw_con (by decide) (Nat.le_of_ble_eq_true rfl) ?_
  refine sw_blk k_X7_ratio 3 6 [(0, .inr (.inr 0)), (1, .inl h)] [.inl 400, .inl 100, .inl h] σ rfl ?_
  refine sw_callS k_X7_ratio rfl cS_X7_within ml_X7_63 ⟨by decide, by decide⟩ [.inl h, .inl 100, .inl 400] [] rfl rfl (Nat.le_of_ble_eq_true rfl) 9 rfl (sp_within σ h 100 400 (by omega) (by decide) (by decide)) (fun r2 σ3 hq4 => ?_)
  obtain ⟨rfl, ⟨p1, rfl⟩ | ⟨p1, rfl⟩⟩ := hq4
  · refine sw_blk k_X7_ratio 0 9 [(0, .inr (.inr 0)), (1, .inl h)] [.inl 1] σ rfl ?_
    refine sw_if_ne k_X7_ratio rfl (by decide) 15 12 (by decide) rfl (fun _ => ?_) (fun c => absurd c (by decide))
    refine sw_blk k_X7_ratio 9 32 [(2, .inl (σ 11 4)), (0, .inr (.inr 0)), (1, .inl h)] [.inl (σ 11 4)] (sw_u σ 11 4 h) rfl ?_
    refine sw_ireturn k_X7_ratio rfl rfl ?_
    exact Or.inr (⟨by omega, rfl, rfl⟩)
  · refine sw_blk k_X7_ratio 0 9 [(0, .inr (.inr 0)), (1, .inl h)] [.inl 0] σ rfl ?_
    refine sw_if_ne k_X7_ratio rfl (by decide) 15 12 (by decide) rfl (fun c => absurd (by decide) c) (fun _ => ?_)
    refine sw_blk k_X7_ratio 1 14 [(0, .inr (.inr 0)), (1, .inl h)] [.inl (-2)] σ rfl ?_
    refine sw_ireturn k_X7_ratio rfl rfl ?_
    exact Or.inl ⟨by omega, rfl, rfl⟩
theorem cc_slips (σ : sw_S) (hσ : sw_gs σ) (hl0 : 0 ≤ σ 11 1 ∧ σ 11 1 ≤ 1000) (hl1 : 0 ≤ σ 11 2 ∧ σ 11 2 ≤ 1000) (hwt : 0 ≤ σ 11 3 ∧ σ 11 3 ≤ 10) (hD : 10 ≤ σ 1 0 ∧ σ 1 0 ≤ 400) (hkp : 100 ≤ σ 11 4 ∧ σ 11 4 ≤ 400) (p c : Int) (gp : sw_g p) (gc : sw_g c) : sw_Con sw_ly sw_rho M_X7_slips [.inr (.inr 0), .inl p, .inl c] σ (fun r σ' => (¬ ((0 ≤ p ∧ p ≤ σ 1 0) ∧ (-9 ≤ c ∧ c ≤ 9)) ∧ r = some (.inl (-2)) ∧ σ = σ') ∨ ((((0 ≤ p ∧ p ≤ σ 1 0) ∧ (-9 ≤ c ∧ c ≤ 9)) ∧ sw_slp (σ 11 1) (σ 11 2) (σ 11 3) (σ 1 0) p c (σ 11 4)) ∧ r = some (.inl (1)) ∧ σ = σ') ∨ ((((0 ≤ p ∧ p ≤ σ 1 0) ∧ (-9 ≤ c ∧ c ≤ 9)) ∧ ¬ sw_slp (σ 11 1) (σ 11 2) (σ 11 3) (σ 1 0) p c (σ 11 4)) ∧ r = some (.inl (0)) ∧ σ = σ')) := by
  refine sw_con (by decide) (Nat.le_of_ble_eq_true rfl) ?_
  refine sw_blk k_X7_slips 3 5 [(0, .inr (.inr 0)), (1, .inl p), (2, .inl c)] [.inl p, .inr (.inr 1)] σ rfl ?_
  refine sw_callV k_X7_slips rfl cV_X3_has ml_X7_85 ⟨by decide, by decide⟩ 1 rfl rfl [.inl p] [] rfl rfl (Nat.le_of_ble_eq_true rfl) 8 rfl (sp_has σ p (by omega) (hσ 1 0)) (fun r2 σ3 hq4 => ?_)
  obtain ⟨rfl, ⟨p1, rfl⟩ | ⟨p1, rfl⟩⟩ := hq4
  · have p1 : 0 ≤ p ∧ p ≤ (σ 1 0) := p1
    refine sw_blk k_X7_slips 0 8 [(0, .inr (.inr 0)), (1, .inl p), (2, .inl c)] [.inl 1] σ rfl ?_
    refine sw_if_eq k_X7_slips rfl (by decide) 22 11 (by decide) rfl (fun c => absurd c (by decide)) (fun _ => ?_)
    refine sw_blk k_X7_slips 3 16 [(0, .inr (.inr 0)), (1, .inl p), (2, .inl c)] [.inl 9, .inl (-9), .inl c] σ rfl ?_
    refine sw_callS k_X7_slips rfl cS_X7_within ml_X7_63 ⟨by decide, by decide⟩ [.inl c, .inl (-9), .inl 9] [] rfl rfl (Nat.le_of_ble_eq_true rfl) 19 rfl (sp_within σ c (-9) 9 (by omega) (by decide) (by decide)) (fun r6 σ7 hq8 => ?_)
    obtain ⟨rfl, ⟨p5, rfl⟩ | ⟨p5, rfl⟩⟩ := hq8
    · refine sw_blk k_X7_slips 0 19 [(0, .inr (.inr 0)), (1, .inl p), (2, .inl c)] [.inl 1] σ rfl ?_
      refine sw_if_ne k_X7_slips rfl (by decide) 25 22 (by decide) rfl (fun _ => ?_) (fun c => absurd c (by decide))
      refine sw_blk k_X7_slips 7 38 [(0, .inr (.inr 0)), (1, .inl p), (2, .inl c)] [.inl (σ 11 4), .inl c, .inl p, .inr (.inr 11)] σ rfl ?_
      refine sw_callV k_X7_slips rfl cV_X2_slipsAt ml_X7_178 ⟨by decide, by decide⟩ 11 rfl rfl [.inl p, .inl c, .inl (σ 11 4)] [] rfl rfl (Nat.le_of_ble_eq_true rfl) 41 rfl (sp_slipsAt σ hl0 hl1 hwt hD p c (σ 11 4) (by omega) (by omega) (by omega)) (fun r10 σ11 hq12 => ?_)
      obtain ⟨rfl, ⟨p9, rfl⟩ | ⟨p9, rfl⟩⟩ := hq12
      · have hsl := p9
        refine sw_blk k_X7_slips 0 41 [(0, .inr (.inr 0)), (1, .inl p), (2, .inl c)] [.inl 1] σ rfl ?_
        refine sw_if_eq k_X7_slips rfl (by decide) 48 44 (by decide) rfl (fun c => absurd c (by decide)) (fun _ => ?_)
        refine sw_blk k_X7_slips 2 49 [(0, .inr (.inr 0)), (1, .inl p), (2, .inl c)] [.inl 1] σ rfl ?_
        refine sw_ireturn k_X7_slips rfl rfl ?_
        exact Or.inr (Or.inl ⟨⟨by omega, hsl⟩, rfl, rfl⟩)
      · have hsl := p9
        refine sw_blk k_X7_slips 0 41 [(0, .inr (.inr 0)), (1, .inl p), (2, .inl c)] [.inl 0] σ rfl ?_
        refine sw_if_eq k_X7_slips rfl (by decide) 48 44 (by decide) rfl (fun _ => ?_) (fun c => absurd (by decide) c)
        refine sw_blk k_X7_slips 1 49 [(0, .inr (.inr 0)), (1, .inl p), (2, .inl c)] [.inl 0] σ rfl ?_
        refine sw_ireturn k_X7_slips rfl rfl ?_
        exact Or.inr (Or.inr ⟨⟨by omega, hsl⟩, rfl, rfl⟩)
    · refine sw_blk k_X7_slips 0 19 [(0, .inr (.inr 0)), (1, .inl p), (2, .inl c)] [.inl 0] σ rfl ?_
      refine sw_if_ne k_X7_slips rfl (by decide) 25 22 (by decide) rfl (fun c => absurd (by decide) c) (fun _ => ?_)
      refine sw_blk k_X7_slips 1 24 [(0, .inr (.inr 0)), (1, .inl p), (2, .inl c)] [.inl (-2)] σ rfl ?_
      refine sw_ireturn k_X7_slips rfl rfl ?_
      exact Or.inl ⟨by omega, rfl, rfl⟩
  · have p1 : ¬ (0 ≤ p ∧ p ≤ (σ 1 0)) := p1
    refine sw_blk k_X7_slips 0 8 [(0, .inr (.inr 0)), (1, .inl p), (2, .inl c)] [.inl 0] σ rfl ?_
    refine sw_if_eq k_X7_slips rfl (by decide) 22 11 (by decide) rfl (fun _ => ?_) (fun c => absurd (by decide) c)
    refine sw_blk k_X7_slips 1 24 [(0, .inr (.inr 0)), (1, .inl p), (2, .inl c)] [.inl (-2)] σ rfl ?_
    refine sw_ireturn k_X7_slips rfl rfl ?_
    exact Or.inl ⟨by omega, rfl, rfl⟩
theorem cc_broken (σ : sw_S) (hσ : sw_gs σ) (hb : ∀ j, j < 60 → 0 ≤ σ 13 j ∧ σ 13 j ≤ 99) (l k : Int) (gl : sw_g l) (gk : sw_g k) : sw_Con sw_ly sw_rho M_X7_broken [.inr (.inr 0), .inl l, .inl k] σ (fun r σ' => (¬ ((0 ≤ l ∧ l ≤ 59) ∧ (1 ≤ k ∧ k ≤ 99)) ∧ r = some (.inl (-2)) ∧ σ = σ') ∨ (((0 ≤ l ∧ l ≤ 59) ∧ (1 ≤ k ∧ k ≤ 99)) ∧ r = some (.inl (min (σ 13 l.toNat + k) 99)) ∧ (sw_u σ 13 l.toNat (min (σ 13 l.toNat + k) 99)) = σ')) := by
  refine sw_con (by decide) (Nat.le_of_ble_eq_true rfl) ?_
  refine sw_blk k_X7_broken 3 4 [(0, .inr (.inr 0)), (1, .inl l), (2, .inl k)] [.inl 59, .inl 0, .inl l] σ rfl ?_
  refine sw_callS k_X7_broken rfl cS_X7_within ml_X7_63 ⟨by decide, by decide⟩ [.inl l, .inl 0, .inl 59] [] rfl rfl (Nat.le_of_ble_eq_true rfl) 7 rfl (sp_within σ l 0 59 (by omega) (by decide) (by decide)) (fun r2 σ3 hq4 => ?_)
  obtain ⟨rfl, ⟨p1, rfl⟩ | ⟨p1, rfl⟩⟩ := hq4
  · refine sw_blk k_X7_broken 0 7 [(0, .inr (.inr 0)), (1, .inl l), (2, .inl k)] [.inl 1] σ rfl ?_
    refine sw_if_eq k_X7_broken rfl (by decide) 20 10 (by decide) rfl (fun c => absurd c (by decide)) (fun _ => ?_)
    refine sw_blk k_X7_broken 3 14 [(0, .inr (.inr 0)), (1, .inl l), (2, .inl k)] [.inl 99, .inl 1, .inl k] σ rfl ?_
    refine sw_callS k_X7_broken rfl cS_X7_within ml_X7_63 ⟨by decide, by decide⟩ [.inl k, .inl 1, .inl 99] [] rfl rfl (Nat.le_of_ble_eq_true rfl) 17 rfl (sp_within σ k 1 99 (by omega) (by decide) (by decide)) (fun r6 σ7 hq8 => ?_)
    obtain ⟨rfl, ⟨p5, rfl⟩ | ⟨p5, rfl⟩⟩ := hq8
    · refine sw_blk k_X7_broken 0 17 [(0, .inr (.inr 0)), (1, .inl l), (2, .inl k)] [.inl 1] σ rfl ?_
      refine sw_if_ne k_X7_broken rfl (by decide) 23 20 (by decide) rfl (fun _ => ?_) (fun c => absurd c (by decide))
      refine sw_blk k_X7_broken 4 29 [(0, .inr (.inr 0)), (1, .inl l), (2, .inl k)] [.inl k, .inl l, .inr (.inr 12)] σ rfl ?_
      refine sw_callV k_X7_broken rfl cV_X0_addBroken ml_X7_188 ⟨by decide, by decide⟩ 12 rfl rfl [.inl l, .inl k] [] rfl rfl (Nat.le_of_ble_eq_true rfl) 32 rfl (sp_addBroken σ hσ hb l k (by omega) (by omega)) (fun r9 σ10 hq11 => ?_)
      obtain ⟨rfl, rfl⟩ := hq11
      refine sw_blk k_X7_broken 0 32 [(0, .inr (.inr 0)), (1, .inl l), (2, .inl k)] [.inl (min (σ 13 l.toNat + k) 99)] (sw_u σ 13 l.toNat (min (σ 13 l.toNat + k) 99)) rfl ?_
      refine sw_ireturn k_X7_broken rfl rfl ?_
      exact Or.inr (⟨by omega, rfl, rfl⟩)
    · refine sw_blk k_X7_broken 0 17 [(0, .inr (.inr 0)), (1, .inl l), (2, .inl k)] [.inl 0] σ rfl ?_
      refine sw_if_ne k_X7_broken rfl (by decide) 23 20 (by decide) rfl (fun c => absurd (by decide) c) (fun _ => ?_)
      refine sw_blk k_X7_broken 1 22 [(0, .inr (.inr 0)), (1, .inl l), (2, .inl k)] [.inl (-2)] σ rfl ?_
      refine sw_ireturn k_X7_broken rfl rfl ?_
      exact Or.inl ⟨by omega, rfl, rfl⟩
  · refine sw_blk k_X7_broken 0 7 [(0, .inr (.inr 0)), (1, .inl l), (2, .inl k)] [.inl 0] σ rfl ?_
    refine sw_if_eq k_X7_broken rfl (by decide) 20 10 (by decide) rfl (fun _ => ?_) (fun c => absurd (by decide) c)
    refine sw_blk k_X7_broken 1 22 [(0, .inr (.inr 0)), (1, .inl l), (2, .inl k)] [.inl (-2)] σ rfl ?_
    refine sw_ireturn k_X7_broken rfl rfl ?_
    exact Or.inl ⟨by omega, rfl, rfl⟩
theorem cc_worstAt (σ : sw_S) (hσ : sw_gs σ) (hb : ∀ j, j < 60 → 0 ≤ σ 13 j ∧ σ 13 j ≤ 99) (w : Int) (gw : sw_g w) : sw_Con sw_ly sw_rho M_X7_worstAt [.inr (.inr 0), .inl w] σ (fun r σ' => σ = σ' ∧ (¬ (1 ≤ w ∧ w ≤ 60) ∧ r = some (.inl (-2)) ∨ (1 ≤ w ∧ w ≤ 60) ∧ ∃ x : Int, r = some (.inl x) ∧ sw_wf (fun i : Int => sw_sm (σ 13) i.toNat w.toNat) w x)) := by
  refine sw_con (by decide) (Nat.le_of_ble_eq_true rfl) ?_
  refine sw_blk k_X7_worstAt 3 4 [(0, .inr (.inr 0)), (1, .inl w)] [.inl 60, .inl 1, .inl w] σ rfl ?_
  refine sw_callS k_X7_worstAt rfl cS_X7_within ml_X7_63 ⟨by decide, by decide⟩ [.inl w, .inl 1, .inl 60] [] rfl rfl (Nat.le_of_ble_eq_true rfl) 7 rfl (sp_within σ w 1 60 (by omega) (by decide) (by decide)) (fun r2 σ3 hq4 => ?_)
  obtain ⟨rfl, ⟨p1, rfl⟩ | ⟨p1, rfl⟩⟩ := hq4
  · refine sw_blk k_X7_worstAt 0 7 [(0, .inr (.inr 0)), (1, .inl w)] [.inl 1] σ rfl ?_
    refine sw_if_ne k_X7_worstAt rfl (by decide) 13 10 (by decide) rfl (fun _ => ?_) (fun c => absurd c (by decide))
    refine sw_blk k_X7_worstAt 3 18 [(0, .inr (.inr 0)), (1, .inl w)] [.inl w, .inr (.inr 12)] σ rfl ?_
    refine sw_callV k_X7_worstAt rfl cV_X0_firstOfWorst ml_X7_191 ⟨by decide, by decide⟩ 12 rfl rfl [.inl w] [] rfl rfl (Nat.le_of_ble_eq_true rfl) 21 rfl (sp_firstOfWorst σ hσ hb w (by omega)) (fun r5 σ6 hq7 => ?_)
    obtain ⟨rfl, x, rfl, hx⟩ := hq7
    have hx1 := hx.1
    have hx2 := hx.2.1
    refine sw_blk k_X7_worstAt 0 21 [(0, .inr (.inr 0)), (1, .inl w)] [.inl x] σ rfl ?_
    refine sw_ireturn k_X7_worstAt rfl rfl ?_
    exact ⟨rfl, Or.inr ⟨by omega, x, rfl, hx⟩⟩
  · refine sw_blk k_X7_worstAt 0 7 [(0, .inr (.inr 0)), (1, .inl w)] [.inl 0] σ rfl ?_
    refine sw_if_ne k_X7_worstAt rfl (by decide) 13 10 (by decide) rfl (fun c => absurd (by decide) c) (fun _ => ?_)
    refine sw_blk k_X7_worstAt 1 12 [(0, .inr (.inr 0)), (1, .inl w)] [.inl (-2)] σ rfl ?_
    refine sw_ireturn k_X7_worstAt rfl rfl ?_
    exact ⟨rfl, Or.inl ⟨by omega, rfl⟩⟩
theorem cc_worst (σ : sw_S) (hσ : sw_gs σ) (hb : ∀ j, j < 60 → 0 ≤ σ 13 j ∧ σ 13 j ≤ 99) (w : Int) (gw : sw_g w) : sw_Con sw_ly sw_rho M_X7_worst [.inr (.inr 0), .inl w] σ (fun r σ' => σ = σ' ∧ (¬ (1 ≤ w ∧ w ≤ 60) ∧ r = some (.inl (-2)) ∨ (1 ≤ w ∧ w ≤ 60) ∧ ∃ x : Int, r = some (.inl (sw_sm (σ 13) x.toNat w.toNat)) ∧ sw_wf (fun i : Int => sw_sm (σ 13) i.toNat w.toNat) w x)) := by
  refine sw_con (by decide) (Nat.le_of_ble_eq_true rfl) ?_
  refine sw_blk k_X7_worst 3 4 [(0, .inr (.inr 0)), (1, .inl w)] [.inl 60, .inl 1, .inl w] σ rfl ?_
  refine sw_callS k_X7_worst rfl cS_X7_within ml_X7_63 ⟨by decide, by decide⟩ [.inl w, .inl 1, .inl 60] [] rfl rfl (Nat.le_of_ble_eq_true rfl) 7 rfl (sp_within σ w 1 60 (by omega) (by decide) (by decide)) (fun r2 σ3 hq4 => ?_)
  obtain ⟨rfl, ⟨p1, rfl⟩ | ⟨p1, rfl⟩⟩ := hq4
  · refine sw_blk k_X7_worst 0 7 [(0, .inr (.inr 0)), (1, .inl w)] [.inl 1] σ rfl ?_
    refine sw_if_ne k_X7_worst rfl (by decide) 13 10 (by decide) rfl (fun _ => ?_) (fun c => absurd c (by decide))
    refine sw_blk k_X7_worst 5 22 [(0, .inr (.inr 0)), (1, .inl w)] [.inl w, .inr (.inr 12), .inr (.inr 12)] σ rfl ?_
    refine sw_callV k_X7_worst rfl cV_X0_firstOfWorst ml_X7_191 ⟨by decide, by decide⟩ 12 rfl rfl [.inl w] [.inr (.inr 12)] rfl rfl (Nat.le_of_ble_eq_true rfl) 25 rfl (sp_firstOfWorst σ hσ hb w (by omega)) (fun r5 σ6 hq7 => ?_)
    obtain ⟨rfl, x, rfl, hx⟩ := hq7
    have hx1 := hx.1
    have hx2 := hx.2.1
    refine sw_blk k_X7_worst 1 26 [(0, .inr (.inr 0)), (1, .inl w)] [.inl w, .inl x, .inr (.inr 12)] σ rfl ?_
    refine sw_callV k_X7_worst rfl cV_X0_wiresIn ml_X7_195 ⟨by decide, by decide⟩ 12 rfl rfl [.inl x, .inl w] [] rfl rfl (Nat.le_of_ble_eq_true rfl) 29 rfl (sp_wires σ hσ hb x w (by omega) (by omega)) (fun r8 σ9 hq10 => ?_)
    obtain ⟨rfl, rfl⟩ := hq10
    have hbb := sw_sm_b hb (x : Int).toNat (w : Int).toNat
    refine sw_blk k_X7_worst 0 29 [(0, .inr (.inr 0)), (1, .inl w)] [.inl (sw_sm (σ 13) x.toNat w.toNat)] σ rfl ?_
    refine sw_ireturn k_X7_worst rfl rfl ?_
    exact ⟨rfl, Or.inr ⟨by omega, x, rfl, hx⟩⟩
  · refine sw_blk k_X7_worst 0 7 [(0, .inr (.inr 0)), (1, .inl w)] [.inl 0] σ rfl ?_
    refine sw_if_ne k_X7_worst rfl (by decide) 13 10 (by decide) rfl (fun c => absurd (by decide) c) (fun _ => ?_)
    refine sw_blk k_X7_worst 1 12 [(0, .inr (.inr 0)), (1, .inl w)] [.inl (-2)] σ rfl ?_
    refine sw_ireturn k_X7_worst rfl rfl ?_
    exact ⟨rfl, Or.inl ⟨by omega, rfl⟩⟩
theorem cc_cut (σ : sw_S) (hσ : sw_gs σ) (hb : ∀ j, j < 60 → 0 ≤ σ 13 j ∧ σ 13 j ≤ 99) (k : Int) (gk : sw_g k) : sw_Con sw_ly sw_rho M_X7_cut [.inr (.inr 0), .inl k] σ (fun r σ' => (¬ (1 ≤ k ∧ k ≤ 60) ∧ r = some (.inl (-2)) ∧ σ = σ') ∨ ((1 ≤ k ∧ k ≤ 60) ∧ r = some (.inl (sw_sm (σ 13) 0 k.toNat)) ∧ (sw_pf σ 13 (fun j : Nat => if j + k.toNat < 60 then σ 13 (j + k.toNat) else 0) 60) = σ')) := by
  refine sw_con (by decide) (Nat.le_of_ble_eq_true rfl) ?_
  refine sw_blk k_X7_cut 3 4 [(0, .inr (.inr 0)), (1, .inl k)] [.inl 60, .inl 1, .inl k] σ rfl ?_
  refine sw_callS k_X7_cut rfl cS_X7_within ml_X7_63 ⟨by decide, by decide⟩ [.inl k, .inl 1, .inl 60] [] rfl rfl (Nat.le_of_ble_eq_true rfl) 7 rfl (sp_within σ k 1 60 (by omega) (by decide) (by decide)) (fun r2 σ3 hq4 => ?_)
  obtain ⟨rfl, ⟨p1, rfl⟩ | ⟨p1, rfl⟩⟩ := hq4
  · refine sw_blk k_X7_cut 0 7 [(0, .inr (.inr 0)), (1, .inl k)] [.inl 1] σ rfl ?_
    refine sw_if_ne k_X7_cut rfl (by decide) 13 10 (by decide) rfl (fun _ => ?_) (fun c => absurd c (by decide))
    refine sw_blk k_X7_cut 3 18 [(0, .inr (.inr 0)), (1, .inl k)] [.inl k, .inr (.inr 12)] σ rfl ?_
    refine sw_callV k_X7_cut rfl cV_X0_cutAway ml_X7_198 ⟨by decide, by decide⟩ 12 rfl rfl [.inl k] [] rfl rfl (Nat.le_of_ble_eq_true rfl) 21 rfl (sp_cutAway σ hσ hb k (by omega)) (fun r5 σ6 hq7 => ?_)
    obtain ⟨rfl, rfl⟩ := hq7
    refine sw_blk k_X7_cut 0 21 [(0, .inr (.inr 0)), (1, .inl k)] [.inl (sw_sm (σ 13) 0 k.toNat)] (sw_pf σ 13 (fun j : Nat => if j + k.toNat < 60 then σ 13 (j + k.toNat) else 0) 60) rfl ?_
    refine sw_ireturn k_X7_cut rfl rfl ?_
    exact Or.inr (⟨by omega, rfl, rfl⟩)
  · refine sw_blk k_X7_cut 0 7 [(0, .inr (.inr 0)), (1, .inl k)] [.inl 0] σ rfl ?_
    refine sw_if_ne k_X7_cut rfl (by decide) 13 10 (by decide) rfl (fun c => absurd (by decide) c) (fun _ => ?_)
    refine sw_blk k_X7_cut 1 12 [(0, .inr (.inr 0)), (1, .inl k)] [.inl (-2)] σ rfl ?_
    refine sw_ireturn k_X7_cut rfl rfl ?_
    exact Or.inl ⟨by omega, rfl, rfl⟩
theorem cc_mend (σ : sw_S) (hσ : sw_gs σ) (hb : ∀ j, j < 60 → 0 ≤ σ 13 j ∧ σ 13 j ≤ 99) (w m : Int) (gw : sw_g w) (gm : sw_g m) : sw_Con sw_ly sw_rho M_X7_mend [.inr (.inr 0), .inl w, .inl m] σ (fun r σ' => σ = σ' ∧ (¬ ((1 ≤ w ∧ w ≤ 60) ∧ 0 ≤ m) ∧ r = some (.inl (-2)) ∨ ((1 ≤ w ∧ w ≤ 60) ∧ 0 ≤ m) ∧ ∃ x : Int, r = some (.inl x) ∧ ((x = 0 ∧ ∀ i : Int, 0 ≤ i → i ≤ 59 → sw_sm (σ 13) i.toNat w.toNat ≤ m) ∨ (1 ≤ x ∧ x ≤ 60 ∧ m < sw_sm (σ 13) (x - 1).toNat w.toNat ∧ ∀ i : Int, x ≤ i → i ≤ 59 → sw_sm (σ 13) i.toNat w.toNat ≤ m)))) := by
  refine sw_con (by decide) (Nat.le_of_ble_eq_true rfl) ?_
  refine sw_blk k_X7_mend 3 4 [(0, .inr (.inr 0)), (1, .inl w), (2, .inl m)] [.inl 60, .inl 1, .inl w] σ rfl ?_
  refine sw_callS k_X7_mend rfl cS_X7_within ml_X7_63 ⟨by decide, by decide⟩ [.inl w, .inl 1, .inl 60] [] rfl rfl (Nat.le_of_ble_eq_true rfl) 7 rfl (sp_within σ w 1 60 (by omega) (by decide) (by decide)) (fun r2 σ3 hq4 => ?_)
  obtain ⟨rfl, ⟨p1, rfl⟩ | ⟨p1, rfl⟩⟩ := hq4
  · refine sw_blk k_X7_mend 0 7 [(0, .inr (.inr 0)), (1, .inl w), (2, .inl m)] [.inl 1] σ rfl ?_
    refine sw_if_eq k_X7_mend rfl (by decide) 14 10 (by decide) rfl (fun c => absurd c (by decide)) (fun _ => ?_)
    refine sw_blk k_X7_mend 1 11 [(0, .inr (.inr 0)), (1, .inl w), (2, .inl m)] [.inl m] σ rfl ?_
    refine sw_if_ge k_X7_mend rfl (by omega) 17 14 (by decide) rfl (fun c5 => ?_) (fun c5 => ?_)
    · refine sw_blk k_X7_mend 4 23 [(0, .inr (.inr 0)), (1, .inl w), (2, .inl m)] [.inl m, .inl w, .inr (.inr 12)] σ rfl ?_
      refine sw_callV k_X7_mend rfl cV_X0_fewestToCut ml_X7_201 ⟨by decide, by decide⟩ 12 rfl rfl [.inl w, .inl m] [] rfl rfl (Nat.le_of_ble_eq_true rfl) 26 rfl (sp_fewest σ hσ hb w m (by omega) gm) (fun r6 σ7 hq8 => ?_)
      obtain ⟨rfl, x, rfl, hx⟩ := hq8
      refine sw_blk k_X7_mend 0 26 [(0, .inr (.inr 0)), (1, .inl w), (2, .inl m)] [.inl x] σ rfl ?_
      refine sw_ireturn k_X7_mend rfl rfl ?_
      exact ⟨rfl, Or.inr ⟨by omega, x, rfl, hx⟩⟩
    · refine sw_blk k_X7_mend 1 16 [(0, .inr (.inr 0)), (1, .inl w), (2, .inl m)] [.inl (-2)] σ rfl ?_
      refine sw_ireturn k_X7_mend rfl rfl ?_
      exact ⟨rfl, Or.inl ⟨by omega, rfl⟩⟩
  · refine sw_blk k_X7_mend 0 7 [(0, .inr (.inr 0)), (1, .inl w), (2, .inl m)] [.inl 0] σ rfl ?_
    refine sw_if_eq k_X7_mend rfl (by decide) 14 10 (by decide) rfl (fun _ => ?_) (fun c => absurd (by decide) c)
    refine sw_blk k_X7_mend 1 16 [(0, .inr (.inr 0)), (1, .inl w), (2, .inl m)] [.inl (-2)] σ rfl ?_
    refine sw_ireturn k_X7_mend rfl rfl ?_
    exact ⟨rfl, Or.inl ⟨by omega, rfl⟩⟩
theorem cc_log (σ : sw_S) (hσ : sw_gs σ) (h61 : 0 ≤ σ 6 1 ∧ σ 6 1 < 1000000) (i w : Int) (gi : sw_g i) (gw : sw_g w) : sw_Con sw_ly sw_rho M_X7_log [.inr (.inr 0), .inl i, .inl w] σ (fun r σ' => (¬ ((0 ≤ i ∧ i ≤ min (σ 6 1) 40 - 1) ∧ (0 ≤ w ∧ w ≤ 2)) ∧ r = some (.inl (-2000)) ∧ σ = σ') ∨ (((0 ≤ i ∧ i ≤ min (σ 6 1) 40 - 1) ∧ (0 ≤ w ∧ w ≤ 2)) ∧ r = some (.inl (σ 7 ((σ 6 1 - 1 - i) % 40 * 3 + w).toNat)) ∧ σ = σ')) := by
  refine sw_con (by decide) (Nat.le_of_ble_eq_true rfl) ?_
  refine sw_blk k_X7_log 5 9 [(0, .inr (.inr 0)), (1, .inl i), (2, .inl w)] [.inr (.inr 6), .inl 0, .inl i] σ rfl ?_
  refine sw_callV k_X7_log rfl cV_X5_size ml_X7_213 ⟨by decide, by decide⟩ 6 rfl rfl [] [.inl 0, .inl i] rfl rfl (Nat.le_of_ble_eq_true rfl) 12 rfl (sp_size σ  (hσ 6 _)) (fun r1 σ2 hq3 => ?_)
  obtain ⟨rfl, rfl⟩ := hq3
  refine sw_blk k_X7_log 2 14 [(0, .inr (.inr 0)), (1, .inl i), (2, .inl w)] [.inl ((min (σ 6 1) 40) - 1), .inl 0, .inl i] σ rfl ?_
  refine sw_callS k_X7_log rfl cS_X7_within ml_X7_63 ⟨by decide, by decide⟩ [.inl i, .inl 0, .inl ((min (σ 6 1) 40) - 1)] [] rfl rfl (Nat.le_of_ble_eq_true rfl) 17 rfl (sp_within σ i 0 ((min (σ 6 1) 40) - 1) (by omega) (by decide) (by omega)) (fun r5 σ6 hq7 => ?_)
  obtain ⟨rfl, ⟨p4, rfl⟩ | ⟨p4, rfl⟩⟩ := hq7
  · refine sw_blk k_X7_log 0 17 [(0, .inr (.inr 0)), (1, .inl i), (2, .inl w)] [.inl 1] σ rfl ?_
    refine sw_if_eq k_X7_log rfl (by decide) 29 20 (by decide) rfl (fun c => absurd c (by decide)) (fun _ => ?_)
    refine sw_blk k_X7_log 3 23 [(0, .inr (.inr 0)), (1, .inl i), (2, .inl w)] [.inl 2, .inl 0, .inl w] σ rfl ?_
    refine sw_callS k_X7_log rfl cS_X7_within ml_X7_63 ⟨by decide, by decide⟩ [.inl w, .inl 0, .inl 2] [] rfl rfl (Nat.le_of_ble_eq_true rfl) 26 rfl (sp_within σ w 0 2 (by omega) (by decide) (by decide)) (fun r9 σ10 hq11 => ?_)
    obtain ⟨rfl, ⟨p8, rfl⟩ | ⟨p8, rfl⟩⟩ := hq11
    · refine sw_blk k_X7_log 0 26 [(0, .inr (.inr 0)), (1, .inl i), (2, .inl w)] [.inl 1] σ rfl ?_
      refine sw_if_ne k_X7_log rfl (by decide) 33 29 (by decide) rfl (fun _ => ?_) (fun c => absurd c (by decide))
      refine sw_blk k_X7_log 5 42 [(0, .inr (.inr 0)), (1, .inl i), (2, .inl w)] [.inl w, .inl i, .inr (.inr 6)] σ rfl ?_
      refine sw_callV k_X7_log rfl cV_X5_latest ml_X7_216 ⟨by decide, by decide⟩ 6 rfl rfl [.inl i, .inl w] [] rfl rfl (Nat.le_of_ble_eq_true rfl) 45 rfl (sp_latest σ i w (by omega) (by omega) (by omega) (by omega)) (fun r12 σ13 hq14 => ?_)
      obtain ⟨rfl, rfl⟩ := hq14
      refine sw_blk k_X7_log 0 45 [(0, .inr (.inr 0)), (1, .inl i), (2, .inl w)] [.inl (σ 7 (((σ 6 1) - 1 - i) % 40 * 3 + w).toNat)] σ rfl ?_
      refine sw_ireturn k_X7_log rfl rfl ?_
      exact Or.inr (⟨by omega, rfl, rfl⟩)
    · refine sw_blk k_X7_log 0 26 [(0, .inr (.inr 0)), (1, .inl i), (2, .inl w)] [.inl 0] σ rfl ?_
      refine sw_if_ne k_X7_log rfl (by decide) 33 29 (by decide) rfl (fun c => absurd (by decide) c) (fun _ => ?_)
      refine sw_blk k_X7_log 1 32 [(0, .inr (.inr 0)), (1, .inl i), (2, .inl w)] [.inl (-2000)] σ rfl ?_
      refine sw_ireturn k_X7_log rfl rfl ?_
      exact Or.inl ⟨by omega, rfl, rfl⟩
  · refine sw_blk k_X7_log 0 17 [(0, .inr (.inr 0)), (1, .inl i), (2, .inl w)] [.inl 0] σ rfl ?_
    refine sw_if_eq k_X7_log rfl (by decide) 29 20 (by decide) rfl (fun _ => ?_) (fun c => absurd (by decide) c)
    refine sw_blk k_X7_log 1 32 [(0, .inr (.inr 0)), (1, .inl i), (2, .inl w)] [.inl (-2000)] σ rfl ?_
    refine sw_ireturn k_X7_log rfl rfl ?_
    exact Or.inl ⟨by omega, rfl, rfl⟩
theorem cc_most (σ : sw_S) (hσ : sw_gs σ) (hD : 10 ≤ σ 1 0 ∧ σ 1 0 ≤ 400) (hV : 1 ≤ σ 1 1 ∧ σ 1 1 ≤ 20) (hA : 1 ≤ σ 1 2 ∧ σ 1 2 ≤ 5) (hL : ∀ x : Int, 0 ≤ x → x ≤ σ 1 0 → 1 ≤ σ 2 x.toNat ∧ σ 2 x.toNat ≤ σ 1 1) (p s : Int) (gp : sw_g p) (gs : sw_g s) : sw_Con sw_ly sw_rho M_X7_most [.inr (.inr 0), .inl p, .inl s] σ (fun r σ' => σ = σ' ∧ (¬ ((0 ≤ p ∧ p ≤ σ 1 0) ∧ (s = 1 ∨ s = -1)) ∧ r = some (.inl (-2)) ∨ ((0 ≤ p ∧ p ≤ σ 1 0) ∧ (s = 1 ∨ s = -1)) ∧ ∃ g : Int, r = some (.inl g) ∧ 0 ≤ g ∧ g ≤ σ 1 1 ∧ ∀ t, 0 ≤ t → (sw_tk (σ 2) (σ 1 0) (σ 1 1) p (s * t) ↔ t ≤ g))) := by
  refine sw_con (by decide) (Nat.le_of_ble_eq_true rfl) ?_
  refine sw_blk k_X7_most 3 5 [(0, .inr (.inr 0)), (1, .inl p), (2, .inl s)] [.inl p, .inr (.inr 1)] σ rfl ?_
  refine sw_callV k_X7_most rfl cV_X3_has ml_X7_85 ⟨by decide, by decide⟩ 1 rfl rfl [.inl p] [] rfl rfl (Nat.le_of_ble_eq_true rfl) 8 rfl (sp_has σ p (by omega) (hσ 1 0)) (fun r2 σ3 hq4 => ?_)
  obtain ⟨rfl, ⟨p1, rfl⟩ | ⟨p1, rfl⟩⟩ := hq4
  · have p1 : 0 ≤ p ∧ p ≤ (σ 1 0) := p1
    refine sw_blk k_X7_most 0 8 [(0, .inr (.inr 0)), (1, .inl p), (2, .inl s)] [.inl 1] σ rfl ?_
    refine sw_if_eq k_X7_most rfl (by decide) 21 11 (by decide) rfl (fun c => absurd c (by decide)) (fun _ => ?_)
    refine sw_blk k_X7_most 2 13 [(0, .inr (.inr 0)), (1, .inl p), (2, .inl s)] [.inl 1, .inl s] σ rfl ?_
    refine sw_icmp_eq k_X7_most rfl (by omega) (by decide) 24 16 (by decide) rfl (fun c5 => ?_) (fun c5 => ?_)
    · refine sw_blk k_X7_most 4 30 [(0, .inr (.inr 0)), (1, .inl p), (2, .inl s)] [.inl s, .inl p, .inr (.inr 1)] σ rfl ?_
      refine sw_callV k_X7_most rfl cV_X3_greatestSpeed ml_X7_95 ⟨by decide, by decide⟩ 1 rfl rfl [.inl p, .inl s] [] rfl rfl (Nat.le_of_ble_eq_true rfl) 33 rfl (sp_gsp σ hσ p s (by omega) (by omega) hD.2 hV (fun x q1 q2 => by have := hL x q1 q2; omega)) (fun r10 σ11 hq12 => ?_)
      obtain ⟨rfl, g6, rfl, a7, b8, hg9⟩ := hq12
      refine sw_blk k_X7_most 0 33 [(0, .inr (.inr 0)), (1, .inl p), (2, .inl s)] [.inl g6] σ rfl ?_
      refine sw_ireturn k_X7_most rfl rfl ?_
      exact ⟨rfl, Or.inr ⟨by omega, _, rfl, a7, b8, hg9⟩⟩
    · refine sw_blk k_X7_most 2 18 [(0, .inr (.inr 0)), (1, .inl p), (2, .inl s)] [.inl (-1), .inl s] σ rfl ?_
      refine sw_icmp_eq k_X7_most rfl (by omega) (by decide) 24 21 (by decide) rfl (fun c13 => ?_) (fun c13 => ?_)
      · refine sw_blk k_X7_most 4 30 [(0, .inr (.inr 0)), (1, .inl p), (2, .inl s)] [.inl s, .inl p, .inr (.inr 1)] σ rfl ?_
        refine sw_callV k_X7_most rfl cV_X3_greatestSpeed ml_X7_95 ⟨by decide, by decide⟩ 1 rfl rfl [.inl p, .inl s] [] rfl rfl (Nat.le_of_ble_eq_true rfl) 33 rfl (sp_gsp σ hσ p s (by omega) (by omega) hD.2 hV (fun x q1 q2 => by have := hL x q1 q2; omega)) (fun r18 σ19 hq20 => ?_)
        obtain ⟨rfl, g14, rfl, a15, b16, hg17⟩ := hq20
        refine sw_blk k_X7_most 0 33 [(0, .inr (.inr 0)), (1, .inl p), (2, .inl s)] [.inl g14] σ rfl ?_
        refine sw_ireturn k_X7_most rfl rfl ?_
        exact ⟨rfl, Or.inr ⟨by omega, _, rfl, a15, b16, hg17⟩⟩
      · refine sw_blk k_X7_most 1 23 [(0, .inr (.inr 0)), (1, .inl p), (2, .inl s)] [.inl (-2)] σ rfl ?_
        refine sw_ireturn k_X7_most rfl rfl ?_
        exact ⟨rfl, Or.inl ⟨by omega, rfl⟩⟩
  · have p1 : ¬ (0 ≤ p ∧ p ≤ (σ 1 0)) := p1
    refine sw_blk k_X7_most 0 8 [(0, .inr (.inr 0)), (1, .inl p), (2, .inl s)] [.inl 0] σ rfl ?_
    refine sw_if_eq k_X7_most rfl (by decide) 21 11 (by decide) rfl (fun _ => ?_) (fun c => absurd (by decide) c)
    refine sw_blk k_X7_most 1 23 [(0, .inr (.inr 0)), (1, .inl p), (2, .inl s)] [.inl (-2)] σ rfl ?_
    refine sw_ireturn k_X7_most rfl rfl ?_
    exact ⟨rfl, Or.inl ⟨by omega, rfl⟩⟩
def sw_stc (σ : sw_S) (x : Int) : Int := if x = 0 then σ 5 7 else if x = 1 then σ 5 8 else if x = 2 then σ 5 9 else if x = 3 then σ 5 10 else if x = 4 then sw_cnt (σ 8) 8 else if x = 5 then sw_told (σ 5 7) (σ 9 0) (σ 9 1) (σ 9 2) else if x = 6 then σ 6 1 else if x = 7 then (if σ 5 9 = 1 then σ 5 5 - σ 5 6 else 0) else if x = 8 then σ 5 13 else if x = 9 then σ 5 14 else if x = 10 then σ 1 3 else if x = 11 then σ 0 8 else if x = 12 then σ 0 9 else -2000
theorem cc_state (σ : sw_S) (hσ : sw_gs σ) (x : Int) (gx : sw_g x) : sw_Con sw_ly sw_rho M_X7_state [.inr (.inr 0), .inl x] σ (fun r σ' => σ = σ' ∧ r = some (.inl (sw_stc σ x))) := by
  have hx : x = 0 ∨ x = 1 ∨ x = 2 ∨ x = 3 ∨ x = 4 ∨ x = 5 ∨ x = 6 ∨ x = 7 ∨ x = 8 ∨ x = 9 ∨ x = 10 ∨ x = 11 ∨ x = 12 ∨ (x < 0 ∨ 12 < x) := by omega
  rcases hx with rfl | rfl | rfl | rfl | rfl | rfl | rfl | rfl | rfl | rfl | rfl | rfl | rfl | hx
  · refine sw_con (by decide) (Nat.le_of_ble_eq_true rfl) ?_
    refine sw_blk k_X7_state 1 1 [(0, .inr (.inr 0)), (1, .inl 0)] [.inl 0] σ rfl ?_
    refine sw_tabIn k_X7_state rfl (by decide) (by decide) (by decide) rfl 68 (by decide) ?_
    refine sw_blk k_X7_state 3 75 [(0, .inr (.inr 0)), (1, .inl 0)] [.inl (σ 5 7)] σ rfl ?_
    refine sw_ireturn k_X7_state rfl rfl ?_
    exact ⟨rfl, rfl⟩
  · refine sw_con (by decide) (Nat.le_of_ble_eq_true rfl) ?_
    refine sw_blk k_X7_state 1 1 [(0, .inr (.inr 0)), (1, .inl 1)] [.inl 1] σ rfl ?_
    refine sw_tabIn k_X7_state rfl (by decide) (by decide) (by decide) rfl 76 (by decide) ?_
    refine sw_blk k_X7_state 3 83 [(0, .inr (.inr 0)), (1, .inl 1)] [.inl (σ 5 8)] σ rfl ?_
    refine sw_ireturn k_X7_state rfl rfl ?_
    exact ⟨rfl, rfl⟩
  · refine sw_con (by decide) (Nat.le_of_ble_eq_true rfl) ?_
    refine sw_blk k_X7_state 1 1 [(0, .inr (.inr 0)), (1, .inl 2)] [.inl 2] σ rfl ?_
    refine sw_tabIn k_X7_state rfl (by decide) (by decide) (by decide) rfl 84 (by decide) ?_
    refine sw_blk k_X7_state 3 91 [(0, .inr (.inr 0)), (1, .inl 2)] [.inl (σ 5 9)] σ rfl ?_
    refine sw_ireturn k_X7_state rfl rfl ?_
    exact ⟨rfl, rfl⟩
  · refine sw_con (by decide) (Nat.le_of_ble_eq_true rfl) ?_
    refine sw_blk k_X7_state 1 1 [(0, .inr (.inr 0)), (1, .inl 3)] [.inl 3] σ rfl ?_
    refine sw_tabIn k_X7_state rfl (by decide) (by decide) (by decide) rfl 92 (by decide) ?_
    refine sw_blk k_X7_state 3 99 [(0, .inr (.inr 0)), (1, .inl 3)] [.inl (σ 5 10)] σ rfl ?_
    refine sw_ireturn k_X7_state rfl rfl ?_
    exact ⟨rfl, rfl⟩
  · refine sw_con (by decide) (Nat.le_of_ble_eq_true rfl) ?_
    refine sw_blk k_X7_state 1 1 [(0, .inr (.inr 0)), (1, .inl 4)] [.inl 4] σ rfl ?_
    refine sw_tabIn k_X7_state rfl (by decide) (by decide) (by decide) rfl 100 (by decide) ?_
    refine sw_blk k_X7_state 2 104 [(0, .inr (.inr 0)), (1, .inl 4)] [.inr (.inr 5)] σ rfl ?_
    refine sw_callV k_X7_state rfl cV_X6_openLinks ml_X7_122 ⟨by decide, by decide⟩ 5 rfl rfl [] [] rfl rfl (Nat.le_of_ble_eq_true rfl) 107 rfl (sp_openLinks σ (fun j => hσ 8 j)) (fun r14 σ15 hq16 => ?_)
    obtain ⟨rfl, rfl⟩ := hq16
    refine sw_blk k_X7_state 0 107 [(0, .inr (.inr 0)), (1, .inl 4)] [.inl (sw_cnt (σ 8) 8)] σ rfl ?_
    refine sw_ireturn k_X7_state rfl rfl ?_
    exact ⟨rfl, rfl⟩
  · refine sw_con (by decide) (Nat.le_of_ble_eq_true rfl) ?_
    refine sw_blk k_X7_state 1 1 [(0, .inr (.inr 0)), (1, .inl 5)] [.inl 5] σ rfl ?_
    refine sw_tabIn k_X7_state rfl (by decide) (by decide) (by decide) rfl 108 (by decide) ?_
    refine sw_blk k_X7_state 2 112 [(0, .inr (.inr 0)), (1, .inl 5)] [.inr (.inr 5)] σ rfl ?_
    refine sw_callV k_X7_state rfl cV_X6_told ml_X7_142 ⟨by decide, by decide⟩ 5 rfl rfl [] [] rfl rfl (Nat.le_of_ble_eq_true rfl) 115 rfl (sp_told σ  (hσ 9 _) (hσ 9 _) (hσ 9 _)) (fun r14 σ15 hq16 => ?_)
    obtain ⟨rfl, rfl⟩ := hq16
    refine sw_blk k_X7_state 0 115 [(0, .inr (.inr 0)), (1, .inl 5)] [.inl (σ 5 7 + σ 9 0 + σ 9 1 + σ 9 2 - min (σ 9 0) (min (σ 9 1) (σ 9 2)) - max (σ 9 0) (max (σ 9 1) (σ 9 2)))] σ rfl ?_
    refine sw_ireturn k_X7_state rfl rfl ?_
    exact ⟨rfl, rfl⟩
  · refine sw_con (by decide) (Nat.le_of_ble_eq_true rfl) ?_
    refine sw_blk k_X7_state 1 1 [(0, .inr (.inr 0)), (1, .inl 6)] [.inl 6] σ rfl ?_
    refine sw_tabIn k_X7_state rfl (by decide) (by decide) (by decide) rfl 116 (by decide) ?_
    refine sw_blk k_X7_state 4 126 [(0, .inr (.inr 0)), (1, .inl 6)] [.inl (σ 6 1)] σ rfl ?_
    refine sw_ireturn k_X7_state rfl rfl ?_
    exact ⟨rfl, rfl⟩
  · refine sw_con (by decide) (Nat.le_of_ble_eq_true rfl) ?_
    refine sw_blk k_X7_state 1 1 [(0, .inr (.inr 0)), (1, .inl 7)] [.inl 7] σ rfl ?_
    refine sw_tabIn k_X7_state rfl (by decide) (by decide) (by decide) rfl 127 (by decide) ?_
    refine sw_blk k_X7_state 2 131 [(0, .inr (.inr 0)), (1, .inl 7)] [.inr (.inr 5)] σ rfl ?_
    refine sw_callV k_X7_state rfl cV_X6_ticksLeft ml_X7_154 ⟨by decide, by decide⟩ 5 rfl rfl [] [] rfl rfl (Nat.le_of_ble_eq_true rfl) 134 rfl (sp_ticksLeft σ  (hσ 5 _)) (fun r14 σ15 hq16 => ?_)
    obtain ⟨rfl, rfl⟩ := hq16
    refine sw_blk k_X7_state 0 134 [(0, .inr (.inr 0)), (1, .inl 7)] [.inl (if σ 5 9 = 1 then σ 5 5 - σ 5 6 else 0)] σ rfl ?_
    refine sw_ireturn k_X7_state rfl rfl ?_
    exact ⟨rfl, rfl⟩
  · refine sw_con (by decide) (Nat.le_of_ble_eq_true rfl) ?_
    refine sw_blk k_X7_state 1 1 [(0, .inr (.inr 0)), (1, .inl 8)] [.inl 8] σ rfl ?_
    refine sw_tabIn k_X7_state rfl (by decide) (by decide) (by decide) rfl 135 (by decide) ?_
    refine sw_blk k_X7_state 3 142 [(0, .inr (.inr 0)), (1, .inl 8)] [.inl (σ 5 13)] σ rfl ?_
    refine sw_ireturn k_X7_state rfl rfl ?_
    exact ⟨rfl, rfl⟩
  · refine sw_con (by decide) (Nat.le_of_ble_eq_true rfl) ?_
    refine sw_blk k_X7_state 1 1 [(0, .inr (.inr 0)), (1, .inl 9)] [.inl 9] σ rfl ?_
    refine sw_tabIn k_X7_state rfl (by decide) (by decide) (by decide) rfl 143 (by decide) ?_
    refine sw_blk k_X7_state 3 150 [(0, .inr (.inr 0)), (1, .inl 9)] [.inl (σ 5 14)] σ rfl ?_
    refine sw_ireturn k_X7_state rfl rfl ?_
    exact ⟨rfl, rfl⟩
  · refine sw_con (by decide) (Nat.le_of_ble_eq_true rfl) ?_
    refine sw_blk k_X7_state 1 1 [(0, .inr (.inr 0)), (1, .inl 10)] [.inl 10] σ rfl ?_
    refine sw_tabIn k_X7_state rfl (by decide) (by decide) (by decide) rfl 151 (by decide) ?_
    refine sw_blk k_X7_state 3 158 [(0, .inr (.inr 0)), (1, .inl 10)] [.inl (σ 1 3)] σ rfl ?_
    refine sw_ireturn k_X7_state rfl rfl ?_
    exact ⟨rfl, rfl⟩
  · refine sw_con (by decide) (Nat.le_of_ble_eq_true rfl) ?_
    refine sw_blk k_X7_state 1 1 [(0, .inr (.inr 0)), (1, .inl 11)] [.inl 11] σ rfl ?_
    refine sw_tabIn k_X7_state rfl (by decide) (by decide) (by decide) rfl 159 (by decide) ?_
    refine sw_blk k_X7_state 2 163 [(0, .inr (.inr 0)), (1, .inl 11)] [.inl (σ 0 8)] σ rfl ?_
    refine sw_ireturn k_X7_state rfl rfl ?_
    exact ⟨rfl, rfl⟩
  · refine sw_con (by decide) (Nat.le_of_ble_eq_true rfl) ?_
    refine sw_blk k_X7_state 1 1 [(0, .inr (.inr 0)), (1, .inl 12)] [.inl 12] σ rfl ?_
    refine sw_tabIn k_X7_state rfl (by decide) (by decide) (by decide) rfl 164 (by decide) ?_
    refine sw_blk k_X7_state 2 168 [(0, .inr (.inr 0)), (1, .inl 12)] [.inl (σ 0 9)] σ rfl ?_
    refine sw_ireturn k_X7_state rfl rfl ?_
    exact ⟨rfl, rfl⟩
  · refine sw_con (by decide) (Nat.le_of_ble_eq_true rfl) ?_
    refine sw_blk k_X7_state 1 1 [(0, .inr (.inr 0)), (1, .inl x)] [.inl x] σ rfl ?_
    refine sw_tabOut k_X7_state rfl (by omega) (by omega) 169 (by decide) ?_
    refine sw_blk k_X7_state 1 172 [(0, .inr (.inr 0)), (1, .inl x)] [.inl (-2000)] σ rfl ?_
    refine sw_ireturn k_X7_state rfl rfl ?_
    exact ⟨rfl, congrArg (fun q : Int => some (Sum.inl q)) (show ((-2000) : Int) = sw_stc σ x from by unfold sw_stc; (repeat rw [if_neg (by omega)]))⟩
