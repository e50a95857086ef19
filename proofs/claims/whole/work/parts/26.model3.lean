/-- a stretch of a row is written from its place b on -/
def sw_pg (σ : sw_S) (c b : Nat) (g : Nat → Int) (m : Nat) : sw_S := fun x y => if x = c ∧ (b ≤ y ∧ y < b + m) then g (y - b) else σ x y
theorem sw_pg_0 (σ : sw_S) (c b : Nat) (g : Nat → Int) : sw_pg σ c b g 0 = σ := by
  funext x y
  unfold sw_pg
  rw [if_neg (by omega)]
theorem sw_pg_s (σ : sw_S) (c b : Nat) (g : Nat → Int) (m : Nat) {v : Int} {k : Nat} (hk : k = b + m) (hv : v = g m) : sw_u (sw_pg σ c b g m) c k v = sw_pg σ c b g (m + 1) := by
  subst hv
  subst hk
  funext x y
  unfold sw_u sw_pg
  by_cases h1 : x = c ∧ y = b + m
  · rw [if_pos h1, if_pos (by omega), h1.2, Nat.add_sub_cancel_left]
  · rw [if_neg h1]
    by_cases h2 : x = c ∧ (b ≤ y ∧ y < b + m)
    · rw [if_pos h2, if_pos (by omega)]
    · rw [if_neg h2, if_neg (by omega)]
theorem sw_pg_row (σ : sw_S) {c : Nat} (b : Nat) (g : Nat → Int) (m : Nat) {x : Nat} (h : x ≠ c) (y : Nat) : sw_pg σ c b g m x y = σ x y := by
  unfold sw_pg
  rw [if_neg (fun z => h z.1)]
theorem lp_mSheet (σ : sw_S) (s f k : Int) (hs : (0 ≤ s ∧ s ≤ 3)) (Q : Option sw_Vl → sw_S → Prop) (hQ : Q (some (.inl k)) (sw_pg σ 44 (60 * s).toNat (fun _ => 0) 60)) : ∀ (n : Nat) (i : Nat), i ≤ 60 → 61 - i < n → sw_E sw_ly sw_rho M_X8_sheet 59 [(4, .inl (i : Int)), (0, .inr (.inr 26)), (1, .inl s), (2, .inl f), (3, .inl k)] [] (sw_pg σ 44 (60 * s).toNat (fun _ => 0) i) Q := by
  intro n
  induction n with
  | zero =>
    intro i hi hn
    omega
  | succ n ih =>
    intro i hi hn
    refine sw_blk k_X8_sheet 2 63 [(4, .inl (i : Int)), (0, .inr (.inr 26)), (1, .inl s), (2, .inl f), (3, .inl k)] [.inl 60, .inl (i : Int)] (sw_pg σ 44 (60 * s).toNat (fun _ => 0) i) rfl ?_
    refine sw_icmp_ge k_X8_sheet rfl (by omega) (by decide) 85 66 (by decide) rfl (fun c1 => ?_) (fun c1 => ?_)
    · refine sw_blk k_X8_sheet 1 86 [(4, .inl (i : Int)), (0, .inr (.inr 26)), (1, .inl s), (2, .inl f), (3, .inl k)] [.inl k] (sw_pg σ 44 (60 * s).toNat (fun _ => 0) i) rfl ?_
      refine sw_ireturn k_X8_sheet rfl rfl ?_
      have e : i = 60 := by omega
      subst e
      exact hQ
    · refine sw_blk k_X8_sheet 8 78 [(4, .inl (i : Int)), (0, .inr (.inr 26)), (1, .inl s), (2, .inl f), (3, .inl k)] [.inl 0, .inl ((60 * s) + (i : Int)), .inr (.inr 44)] (sw_pg σ 44 (60 * s).toNat (fun _ => 0) i) rfl ?_
      refine sw_iast k_X8_sheet rfl (i := 44) (n := 240) rfl (by decide) (by omega) (by omega) 79 rfl ?_
      refine sw_blk k_X8_sheet 2 59 [(4, .inl ((i : Int) + 1)), (0, .inr (.inr 26)), (1, .inl s), (2, .inl f), (3, .inl k)] [] (sw_u (sw_pg σ 44 (60 * s).toNat (fun _ => 0) i) 44 (((60 * s) + (i : Int)).toNat) 0) rfl ?_
      rw [sw_pg_s σ 44 (60 * s).toNat (fun _ => 0) i (by omega) rfl]
      exact ih (i + 1) (by omega) (by omega)
theorem mm_sheet (σ : sw_S) (s : Int) (gs : sw_g s) (f k : Int) (gf : sw_g f) (gk : sw_g k) : sw_Con sw_ly sw_rho M_X8_sheet [.inr (.inr 26), .inl s, .inl f, .inl k] σ (fun r σ' => (¬ ((0 ≤ s ∧ s ≤ 3) ∧ (0 ≤ f ∧ f ≤ 2) ∧ k ≤ 60) ∧ r = some (.inl (-2)) ∧ σ = σ') ∨ ((((0 ≤ s ∧ s ≤ 3) ∧ (0 ≤ f ∧ f ≤ 2) ∧ k ≤ 60) ∧ k < 0) ∧ r = some (.inl (-10 - 5)) ∧ (sw_u σ 26 39 5) = σ') ∨ ((((0 ≤ s ∧ s ≤ 3) ∧ (0 ≤ f ∧ f ≤ 2) ∧ k ≤ 60) ∧ 0 ≤ k) ∧ r = some (.inl (k)) ∧ (sw_pg (sw_u (sw_u (sw_u σ 41 s.toNat 1) 42 s.toNat f) 43 s.toNat k) 44 (60 * s).toNat (fun _ => 0) 60) = σ')) := by
  refine sw_con (by decide) (Nat.le_of_ble_eq_true rfl) ?_
  refine sw_blk k_X8_sheet 1 1 [(0, .inr (.inr 26)), (1, .inl s), (2, .inl f), (3, .inl k)] [.inl s] σ rfl ?_
  refine sw_callS k_X8_sheet rfl cS_X8_isSheet ml_X8_194 ⟨by decide, by decide⟩ [.inl s] [] rfl rfl (Nat.le_of_ble_eq_true rfl) 4 rfl (sp_mSheet σ s (by omega)) (fun r2 σ3 hq4 => ?_)
  obtain ⟨rfl, ⟨p1, rfl⟩ | ⟨p1, rfl⟩⟩ := hq4
  · refine sw_blk k_X8_sheet 0 4 [(0, .inr (.inr 26)), (1, .inl s), (2, .inl f), (3, .inl k)] [.inl 1] σ rfl ?_
    refine sw_if_eq k_X8_sheet rfl (by decide) 22 7 (by decide) rfl (fun c => absurd c (by decide)) (fun _ => ?_)
    refine sw_blk k_X8_sheet 3 10 [(0, .inr (.inr 26)), (1, .inl s), (2, .inl f), (3, .inl k)] [.inl 2, .inl 0, .inl f] σ rfl ?_
    refine sw_callS k_X8_sheet rfl cS_X8_in ml_X8_87 ⟨by decide, by decide⟩ [.inl f, .inl 0, .inl 2] [] rfl rfl (Nat.le_of_ble_eq_true rfl) 13 rfl (sp_in σ f 0 2 (by omega) (by decide) (by decide)) (fun r6 σ7 hq8 => ?_)
    obtain ⟨rfl, ⟨p5, rfl⟩ | ⟨p5, rfl⟩⟩ := hq8
    · refine sw_blk k_X8_sheet 0 13 [(0, .inr (.inr 26)), (1, .inl s), (2, .inl f), (3, .inl k)] [.inl 1] σ rfl ?_
      refine sw_if_eq k_X8_sheet rfl (by decide) 22 16 (by decide) rfl (fun c => absurd c (by decide)) (fun _ => ?_)
      refine sw_blk k_X8_sheet 2 19 [(0, .inr (.inr 26)), (1, .inl s), (2, .inl f), (3, .inl k)] [.inl 60, .inl k] σ rfl ?_
      refine sw_icmp_le k_X8_sheet rfl (by omega) (by decide) 25 22 (by decide) rfl (fun c9 => ?_) (fun c9 => ?_)
      · refine sw_blk k_X8_sheet 1 26 [(0, .inr (.inr 26)), (1, .inl s), (2, .inl f), (3, .inl k)] [.inl k] σ rfl ?_
        refine sw_if_ge k_X8_sheet rfl (by omega) 35 29 (by decide) rfl (fun c10 => ?_) (fun c10 => ?_)
        · refine sw_blk k_X8_sheet 4 41 [(0, .inr (.inr 26)), (1, .inl s), (2, .inl f), (3, .inl k)] [.inl 1, .inl s, .inr (.inr 41)] σ rfl ?_
          refine sw_zast k_X8_sheet rfl (i := 41) (n := 4) rfl (by decide) (by omega) (by omega) (by decide) 42 rfl ?_
          refine sw_blk k_X8_sheet 4 48 [(0, .inr (.inr 26)), (1, .inl s), (2, .inl f), (3, .inl k)] [.inl f, .inl s, .inr (.inr 42)] (sw_u σ 41 s.toNat 1) rfl ?_
          refine sw_iast k_X8_sheet rfl (i := 42) (n := 4) rfl (by decide) (by omega) (by omega) 49 rfl ?_
          refine sw_blk k_X8_sheet 4 55 [(0, .inr (.inr 26)), (1, .inl s), (2, .inl f), (3, .inl k)] [.inl k, .inl s, .inr (.inr 43)] (sw_u (sw_u σ 41 s.toNat 1) 42 s.toNat f) rfl ?_
          refine sw_iast k_X8_sheet rfl (i := 43) (n := 4) rfl (by decide) (by omega) (by omega) 56 rfl ?_
          refine sw_blk k_X8_sheet 2 59 [(4, .inl 0), (0, .inr (.inr 26)), (1, .inl s), (2, .inl f), (3, .inl k)] [] (sw_u (sw_u (sw_u σ 41 s.toNat 1) 42 s.toNat f) 43 s.toNat k) rfl ?_
          have h := lp_mSheet (sw_u (sw_u (sw_u σ 41 s.toNat 1) 42 s.toNat f) 43 s.toNat k) s f k (by omega) (fun r σ' => (¬ ((0 ≤ s ∧ s ≤ 3) ∧ (0 ≤ f ∧ f ≤ 2) ∧ k ≤ 60) ∧ r = some (.inl (-2)) ∧ σ = σ') ∨ ((((0 ≤ s ∧ s ≤ 3) ∧ (0 ≤ f ∧ f ≤ 2) ∧ k ≤ 60) ∧ k < 0) ∧ r = some (.inl (-10 - 5)) ∧ (sw_u σ 26 39 5) = σ') ∨ ((((0 ≤ s ∧ s ≤ 3) ∧ (0 ≤ f ∧ f ≤ 2) ∧ k ≤ 60) ∧ 0 ≤ k) ∧ r = some (.inl (k)) ∧ (sw_pg (sw_u (sw_u (sw_u σ 41 s.toNat 1) 42 s.toNat f) 43 s.toNat k) 44 (60 * s).toNat (fun _ => 0) 60) = σ')) (Or.inr (Or.inr ⟨by omega, rfl, rfl⟩)) 62 0 (by omega) (by omega)
          rw [sw_pg_0] at h
          exact h
        · refine sw_blk k_X8_sheet 2 31 [(0, .inr (.inr 26)), (1, .inl s), (2, .inl f), (3, .inl k)] [.inl 5, .inr (.inr 26)] σ rfl ?_
          refine sw_callV k_X8_sheet rfl cV_X8_meets ml_X8_197 ⟨by decide, by decide⟩ 26 rfl rfl [.inl 5] [] rfl rfl (Nat.le_of_ble_eq_true rfl) 34 rfl (sp_meets σ 5) (fun r11 σ12 hq13 => ?_)
          obtain ⟨rfl, rfl⟩ := hq13
          refine sw_blk k_X8_sheet 0 34 [(0, .inr (.inr 26)), (1, .inl s), (2, .inl f), (3, .inl k)] [.inl (-10 - 5)] (sw_u σ 26 39 5) rfl ?_
          refine sw_ireturn k_X8_sheet rfl rfl ?_
          exact Or.inr (Or.inl ⟨by omega, rfl, rfl⟩)
      · refine sw_blk k_X8_sheet 1 24 [(0, .inr (.inr 26)), (1, .inl s), (2, .inl f), (3, .inl k)] [.inl (-2)] σ rfl ?_
        refine sw_ireturn k_X8_sheet rfl rfl ?_
        exact Or.inl ⟨by omega, rfl, rfl⟩
    · refine sw_blk k_X8_sheet 0 13 [(0, .inr (.inr 26)), (1, .inl s), (2, .inl f), (3, .inl k)] [.inl 0] σ rfl ?_
      refine sw_if_eq k_X8_sheet rfl (by decide) 22 16 (by decide) rfl (fun _ => ?_) (fun c => absurd (by decide) c)
      refine sw_blk k_X8_sheet 1 24 [(0, .inr (.inr 26)), (1, .inl s), (2, .inl f), (3, .inl k)] [.inl (-2)] σ rfl ?_
      refine sw_ireturn k_X8_sheet rfl rfl ?_
      exact Or.inl ⟨by omega, rfl, rfl⟩
  · refine sw_blk k_X8_sheet 0 4 [(0, .inr (.inr 26)), (1, .inl s), (2, .inl f), (3, .inl k)] [.inl 0] σ rfl ?_
    refine sw_if_eq k_X8_sheet rfl (by decide) 22 7 (by decide) rfl (fun _ => ?_) (fun c => absurd (by decide) c)
    refine sw_blk k_X8_sheet 1 24 [(0, .inr (.inr 26)), (1, .inl s), (2, .inl f), (3, .inl k)] [.inl (-2)] σ rfl ?_
    refine sw_ireturn k_X8_sheet rfl rfl ?_
    exact Or.inl ⟨by omega, rfl, rfl⟩
theorem mm_lose (σ : sw_S) (hσ : sw_gs σ) (s : Int) (gs : sw_g s) : sw_Con sw_ly sw_rho M_X8_lose [.inr (.inr 26), .inl s] σ (fun r σ' => (¬ (0 ≤ s ∧ s ≤ 3) ∧ r = some (.inl (-2)) ∧ σ = σ') ∨ (((0 ≤ s ∧ s ≤ 3) ∧ σ 41 s.toNat = 0) ∧ r = some (.inl (-10 - 1)) ∧ (sw_u σ 26 39 1) = σ') ∨ (((0 ≤ s ∧ s ≤ 3) ∧ ¬ σ 41 s.toNat = 0) ∧ r = some (.inl (σ 43 s.toNat)) ∧ (sw_u σ 41 s.toNat 0) = σ')) := by
  refine sw_con (by decide) (Nat.le_of_ble_eq_true rfl) ?_
  refine sw_blk k_X8_lose 1 1 [(0, .inr (.inr 26)), (1, .inl s)] [.inl s] σ rfl ?_
  refine sw_callS k_X8_lose rfl cS_X8_isSheet ml_X8_194 ⟨by decide, by decide⟩ [.inl s] [] rfl rfl (Nat.le_of_ble_eq_true rfl) 4 rfl (sp_mSheet σ s (by omega)) (fun r2 σ3 hq4 => ?_)
  obtain ⟨rfl, ⟨p1, rfl⟩ | ⟨p1, rfl⟩⟩ := hq4
  · refine sw_blk k_X8_lose 0 4 [(0, .inr (.inr 26)), (1, .inl s)] [.inl 1] σ rfl ?_
    refine sw_if_ne k_X8_lose rfl (by decide) 10 7 (by decide) rfl (fun _ => ?_) (fun c => absurd c (by decide))
    refine sw_blk k_X8_lose 3 15 [(0, .inr (.inr 26)), (1, .inl s)] [.inl s, .inr (.inr 41)] σ rfl ?_
    refine sw_zald k_X8_lose rfl (i := 41) (n := 4) rfl (by decide) (by omega) (by omega) 16 rfl ?_
    refine sw_blk k_X8_lose 0 16 [(0, .inr (.inr 26)), (1, .inl s)] [.inl (σ 41 s.toNat)] σ rfl ?_
    refine sw_if_ne k_X8_lose rfl (hσ 41 _) 25 19 (by decide) rfl (fun c5 => ?_) (fun c5 => ?_)
    · refine sw_blk k_X8_lose 4 31 [(0, .inr (.inr 26)), (1, .inl s)] [.inl 0, .inl s, .inr (.inr 41)] σ rfl ?_
      refine sw_zast k_X8_lose rfl (i := 41) (n := 4) rfl (by decide) (by omega) (by omega) (by decide) 32 rfl ?_
      refine sw_blk k_X8_lose 3 37 [(0, .inr (.inr 26)), (1, .inl s)] [.inl s, .inr (.inr 43)] (sw_u σ 41 s.toNat 0) rfl ?_
      refine sw_iald k_X8_lose rfl (i := 43) (n := 4) rfl (by decide) (by omega) (by omega) 38 rfl ?_
      refine sw_blk k_X8_lose 0 38 [(0, .inr (.inr 26)), (1, .inl s)] [.inl (σ 43 s.toNat)] (sw_u σ 41 s.toNat 0) rfl ?_
      refine sw_ireturn k_X8_lose rfl rfl ?_
      exact Or.inr (Or.inr (⟨by omega, rfl, rfl⟩))
    · refine sw_blk k_X8_lose 2 21 [(0, .inr (.inr 26)), (1, .inl s)] [.inl 1, .inr (.inr 26)] σ rfl ?_
      refine sw_callV k_X8_lose rfl cV_X8_meets ml_X8_197 ⟨by decide, by decide⟩ 26 rfl rfl [.inl 1] [] rfl rfl (Nat.le_of_ble_eq_true rfl) 24 rfl (sp_meets σ 1) (fun r6 σ7 hq8 => ?_)
      obtain ⟨rfl, rfl⟩ := hq8
      refine sw_blk k_X8_lose 0 24 [(0, .inr (.inr 26)), (1, .inl s)] [.inl (-10 - 1)] (sw_u σ 26 39 1) rfl ?_
      refine sw_ireturn k_X8_lose rfl rfl ?_
      exact Or.inr (Or.inl ⟨by omega, rfl, rfl⟩)
  · refine sw_blk k_X8_lose 0 4 [(0, .inr (.inr 26)), (1, .inl s)] [.inl 0] σ rfl ?_
    refine sw_if_ne k_X8_lose rfl (by decide) 10 7 (by decide) rfl (fun c => absurd (by decide) c) (fun _ => ?_)
    refine sw_blk k_X8_lose 1 9 [(0, .inr (.inr 26)), (1, .inl s)] [.inl (-2)] σ rfl ?_
    refine sw_ireturn k_X8_lose rfl rfl ?_
    exact Or.inl ⟨by omega, rfl, rfl⟩
theorem mm_put (σ : sw_S) (hσ : sw_gs σ) (s : Int) (gs : sw_g s) (hz : ∀ j : Nat, j < 4 → 0 ≤ σ 43 j ∧ σ 43 j ≤ 60) (f i v : Int) (gf : sw_g f) (gi : sw_g i) (gv : sw_g v) : sw_Con sw_ly sw_rho M_X8_put [.inr (.inr 26), .inl s, .inl f, .inl i, .inl v] σ (fun r σ' => (¬ ((0 ≤ s ∧ s ≤ 3) ∧ (0 ≤ f ∧ f ≤ 2)) ∧ r = some (.inl (-2)) ∧ σ = σ') ∨ (((0 ≤ s ∧ s ≤ 3) ∧ (0 ≤ f ∧ f ≤ 2)) ∧ ∃ wr : Int, (if σ 41 s.toNat = 0 then 1 else if σ 42 s.toNat = f then (if 0 ≤ i ∧ i < σ 43 s.toNat then (0 : Int) else 2) else 3) = wr ∧ ((¬ wr = 0 ∧ r = some (.inl (-10 - wr)) ∧ sw_u σ 26 39 wr = σ') ∨ (wr = 0 ∧ r = some (.inl 1) ∧ sw_u σ 44 (60 * s + i).toNat (sw_cv (σ 42 s.toNat) v) = σ')))) := by
  refine sw_con (by decide) (Nat.le_of_ble_eq_true rfl) ?_
  refine sw_blk k_X8_put 1 1 [(0, .inr (.inr 26)), (1, .inl s), (2, .inl f), (3, .inl i), (4, .inl v)] [.inl s] σ rfl ?_
  refine sw_callS k_X8_put rfl cS_X8_isSheet ml_X8_194 ⟨by decide, by decide⟩ [.inl s] [] rfl rfl (Nat.le_of_ble_eq_true rfl) 4 rfl (sp_mSheet σ s (by omega)) (fun r2 σ3 hq4 => ?_)
  obtain ⟨rfl, ⟨p1, rfl⟩ | ⟨p1, rfl⟩⟩ := hq4
  · refine sw_blk k_X8_put 0 4 [(0, .inr (.inr 26)), (1, .inl s), (2, .inl f), (3, .inl i), (4, .inl v)] [.inl 1] σ rfl ?_
    refine sw_if_eq k_X8_put rfl (by decide) 16 7 (by decide) rfl (fun c => absurd c (by decide)) (fun _ => ?_)
    refine sw_blk k_X8_put 3 10 [(0, .inr (.inr 26)), (1, .inl s), (2, .inl f), (3, .inl i), (4, .inl v)] [.inl 2, .inl 0, .inl f] σ rfl ?_
    refine sw_callS k_X8_put rfl cS_X8_in ml_X8_87 ⟨by decide, by decide⟩ [.inl f, .inl 0, .inl 2] [] rfl rfl (Nat.le_of_ble_eq_true rfl) 13 rfl (sp_in σ f 0 2 (by omega) (by decide) (by decide)) (fun r6 σ7 hq8 => ?_)
    obtain ⟨rfl, ⟨p5, rfl⟩ | ⟨p5, rfl⟩⟩ := hq8
    · refine sw_blk k_X8_put 0 13 [(0, .inr (.inr 26)), (1, .inl s), (2, .inl f), (3, .inl i), (4, .inl v)] [.inl 1] σ rfl ?_
      refine sw_if_ne k_X8_put rfl (by decide) 19 16 (by decide) rfl (fun _ => ?_) (fun c => absurd c (by decide))
      refine sw_blk k_X8_put 4 23 [(0, .inr (.inr 26)), (1, .inl s), (2, .inl f), (3, .inl i), (4, .inl v)] [.inl i, .inl f, .inl s, .inr (.inr 26)] σ rfl ?_
      refine sw_callV k_X8_put rfl cV_X8_lacks ml_X8_200 ⟨by decide, by decide⟩ 26 rfl rfl [.inl s, .inl f, .inl i] [] rfl rfl (Nat.le_of_ble_eq_true rfl) 26 rfl (sp_lacks σ hσ s (by omega) hz f i (by omega) (by omega)) (fun r9 σ10 hq11 => ?_)
      obtain ⟨rfl, rfl⟩ := hq11
      have hz1 := hz s.toNat (by omega)
      generalize hwr : (if σ 41 s.toNat = 0 then 1 else if σ 42 s.toNat = f then (if 0 ≤ i ∧ i < σ 43 s.toNat then (0 : Int) else 2) else 3) = wr
      have gwr : 0 ≤ wr ∧ wr ≤ 3 := by omega
      refine sw_blk k_X8_put 2 30 [(5, .inl wr), (0, .inr (.inr 26)), (1, .inl s), (2, .inl f), (3, .inl i), (4, .inl v)] [.inl wr] σ rfl ?_
      refine sw_if_le k_X8_put rfl (by omega) 40 33 (by decide) rfl (fun c12 => ?_) (fun c12 => ?_)
      · refine sw_blk k_X8_put 4 45 [(5, .inl wr), (0, .inr (.inr 26)), (1, .inl s), (2, .inl f), (3, .inl i), (4, .inl v)] [.inl v, .inl i, .inl s, .inr (.inr 26)] σ rfl ?_
        refine sw_callV k_X8_put rfl cV_X8_lay ml_X8_203 ⟨by decide, by decide⟩ 26 rfl rfl [.inl s, .inl i, .inl v] [] rfl rfl (Nat.le_of_ble_eq_true rfl) 48 rfl (sp_mlay σ hσ s (by omega) i v (by omega)) (fun r13 σ14 hq15 => ?_)
        obtain ⟨rfl, rfl⟩ := hq15
        refine sw_blk k_X8_put 1 49 [(5, .inl wr), (0, .inr (.inr 26)), (1, .inl s), (2, .inl f), (3, .inl i), (4, .inl v)] [.inl 1] (sw_u σ 44 (60 * s + i).toNat (sw_cv (σ 42 s.toNat) v)) rfl ?_
        refine sw_ireturn k_X8_put rfl rfl ?_
        exact Or.inr ⟨by omega, wr, rfl, Or.inr ⟨by omega, rfl, rfl⟩⟩
      · refine sw_blk k_X8_put 2 36 [(5, .inl wr), (0, .inr (.inr 26)), (1, .inl s), (2, .inl f), (3, .inl i), (4, .inl v)] [.inl wr, .inr (.inr 26)] σ rfl ?_
        refine sw_callV k_X8_put rfl cV_X8_meets ml_X8_197 ⟨by decide, by decide⟩ 26 rfl rfl [.inl wr] [] rfl rfl (Nat.le_of_ble_eq_true rfl) 39 rfl (sp_meets σ wr) (fun r16 σ17 hq18 => ?_)
        obtain ⟨rfl, rfl⟩ := hq18
        refine sw_blk k_X8_put 0 39 [(5, .inl wr), (0, .inr (.inr 26)), (1, .inl s), (2, .inl f), (3, .inl i), (4, .inl v)] [.inl (-10 - wr)] (sw_u σ 26 39 wr) rfl ?_
        refine sw_ireturn k_X8_put rfl rfl ?_
        exact Or.inr ⟨by omega, wr, rfl, Or.inl ⟨by omega, rfl, rfl⟩⟩
    · refine sw_blk k_X8_put 0 13 [(0, .inr (.inr 26)), (1, .inl s), (2, .inl f), (3, .inl i), (4, .inl v)] [.inl 0] σ rfl ?_
      refine sw_if_ne k_X8_put rfl (by decide) 19 16 (by decide) rfl (fun c => absurd (by decide) c) (fun _ => ?_)
      refine sw_blk k_X8_put 1 18 [(0, .inr (.inr 26)), (1, .inl s), (2, .inl f), (3, .inl i), (4, .inl v)] [.inl (-2)] σ rfl ?_
      refine sw_ireturn k_X8_put rfl rfl ?_
      exact Or.inl ⟨by omega, rfl, rfl⟩
  · refine sw_blk k_X8_put 0 4 [(0, .inr (.inr 26)), (1, .inl s), (2, .inl f), (3, .inl i), (4, .inl v)] [.inl 0] σ rfl ?_
    refine sw_if_eq k_X8_put rfl (by decide) 16 7 (by decide) rfl (fun _ => ?_) (fun c => absurd (by decide) c)
    refine sw_blk k_X8_put 1 18 [(0, .inr (.inr 26)), (1, .inl s), (2, .inl f), (3, .inl i), (4, .inl v)] [.inl (-2)] σ rfl ?_
    refine sw_ireturn k_X8_put rfl rfl ?_
    exact Or.inl ⟨by omega, rfl, rfl⟩
theorem mm_get (σ : sw_S) (hσ : sw_gs σ) (s : Int) (gs : sw_g s) (hz : ∀ j : Nat, j < 4 → 0 ≤ σ 43 j ∧ σ 43 j ≤ 60) (f i : Int) (gf : sw_g f) (gi : sw_g i) : sw_Con sw_ly sw_rho M_X8_get [.inr (.inr 26), .inl s, .inl f, .inl i] σ (fun r σ' => (¬ ((0 ≤ s ∧ s ≤ 3) ∧ (0 ≤ f ∧ f ≤ 2)) ∧ r = some (.inl (-2147483648)) ∧ σ = σ') ∨ (((0 ≤ s ∧ s ≤ 3) ∧ (0 ≤ f ∧ f ≤ 2)) ∧ ∃ wr : Int, (if σ 41 s.toNat = 0 then 1 else if σ 42 s.toNat = f then (if 0 ≤ i ∧ i < σ 43 s.toNat then (0 : Int) else 2) else 3) = wr ∧ ((¬ wr = 0 ∧ r = some (.inl (-2147483648)) ∧ sw_u σ 26 39 wr = σ') ∨ (wr = 0 ∧ r = some (.inl (σ 44 (60 * s + i).toNat)) ∧ σ = σ')))) := by
  refine sw_con (by decide) (Nat.le_of_ble_eq_true rfl) ?_
  refine sw_blk k_X8_get 1 1 [(0, .inr (.inr 26)), (1, .inl s), (2, .inl f), (3, .inl i)] [.inl s] σ rfl ?_
  refine sw_callS k_X8_get rfl cS_X8_isSheet ml_X8_194 ⟨by decide, by decide⟩ [.inl s] [] rfl rfl (Nat.le_of_ble_eq_true rfl) 4 rfl (sp_mSheet σ s (by omega)) (fun r2 σ3 hq4 => ?_)
  obtain ⟨rfl, ⟨p1, rfl⟩ | ⟨p1, rfl⟩⟩ := hq4
  · refine sw_blk k_X8_get 0 4 [(0, .inr (.inr 26)), (1, .inl s), (2, .inl f), (3, .inl i)] [.inl 1] σ rfl ?_
    refine sw_if_eq k_X8_get rfl (by decide) 16 7 (by decide) rfl (fun c => absurd c (by decide)) (fun _ => ?_)
    refine sw_blk k_X8_get 3 10 [(0, .inr (.inr 26)), (1, .inl s), (2, .inl f), (3, .inl i)] [.inl 2, .inl 0, .inl f] σ rfl ?_
    refine sw_callS k_X8_get rfl cS_X8_in ml_X8_87 ⟨by decide, by decide⟩ [.inl f, .inl 0, .inl 2] [] rfl rfl (Nat.le_of_ble_eq_true rfl) 13 rfl (sp_in σ f 0 2 (by omega) (by decide) (by decide)) (fun r6 σ7 hq8 => ?_)
    obtain ⟨rfl, ⟨p5, rfl⟩ | ⟨p5, rfl⟩⟩ := hq8
    · refine sw_blk k_X8_get 0 13 [(0, .inr (.inr 26)), (1, .inl s), (2, .inl f), (3, .inl i)] [.inl 1] σ rfl ?_
      refine sw_if_ne k_X8_get rfl (by decide) 19 16 (by decide) rfl (fun _ => ?_) (fun c => absurd c (by decide))
      refine sw_blk k_X8_get 4 23 [(0, .inr (.inr 26)), (1, .inl s), (2, .inl f), (3, .inl i)] [.inl i, .inl f, .inl s, .inr (.inr 26)] σ rfl ?_
      refine sw_callV k_X8_get rfl cV_X8_lacks ml_X8_200 ⟨by decide, by decide⟩ 26 rfl rfl [.inl s, .inl f, .inl i] [] rfl rfl (Nat.le_of_ble_eq_true rfl) 26 rfl (sp_lacks σ hσ s (by omega) hz f i (by omega) (by omega)) (fun r9 σ10 hq11 => ?_)
      obtain ⟨rfl, rfl⟩ := hq11
      have hz1 := hz s.toNat (by omega)
      generalize hwr : (if σ 41 s.toNat = 0 then 1 else if σ 42 s.toNat = f then (if 0 ≤ i ∧ i < σ 43 s.toNat then (0 : Int) else 2) else 3) = wr
      have gwr : 0 ≤ wr ∧ wr ≤ 3 := by omega
      refine sw_blk k_X8_get 2 30 [(4, .inl wr), (0, .inr (.inr 26)), (1, .inl s), (2, .inl f), (3, .inl i)] [.inl wr] σ rfl ?_
      refine sw_if_le k_X8_get rfl (by omega) 42 33 (by decide) rfl (fun c12 => ?_) (fun c12 => ?_)
      · refine sw_blk k_X8_get 7 52 [(4, .inl wr), (0, .inr (.inr 26)), (1, .inl s), (2, .inl f), (3, .inl i)] [.inl ((60 * s) + i), .inr (.inr 44)] σ rfl ?_
        refine sw_iald k_X8_get rfl (i := 44) (n := 240) rfl (by decide) (by omega) (by omega) 53 rfl ?_
        refine sw_blk k_X8_get 0 53 [(4, .inl wr), (0, .inr (.inr 26)), (1, .inl s), (2, .inl f), (3, .inl i)] [.inl (σ 44 (((60 * s) + i).toNat))] σ rfl ?_
        refine sw_ireturn k_X8_get rfl rfl ?_
        exact Or.inr ⟨by omega, wr, rfl, Or.inr ⟨by omega, rfl, rfl⟩⟩
      · refine sw_blk k_X8_get 4 41 [(4, .inl wr), (0, .inr (.inr 26)), (1, .inl s), (2, .inl f), (3, .inl i)] [.inl (-2147483648)] (sw_u σ 26 39 wr) rfl ?_
        refine sw_ireturn k_X8_get rfl rfl ?_
        exact Or.inr ⟨by omega, wr, rfl, Or.inl ⟨by omega, rfl, rfl⟩⟩
    · refine sw_blk k_X8_get 0 13 [(0, .inr (.inr 26)), (1, .inl s), (2, .inl f), (3, .inl i)] [.inl 0] σ rfl ?_
      refine sw_if_ne k_X8_get rfl (by decide) 19 16 (by decide) rfl (fun c => absurd (by decide) c) (fun _ => ?_)
      refine sw_blk k_X8_get 1 18 [(0, .inr (.inr 26)), (1, .inl s), (2, .inl f), (3, .inl i)] [.inl (-2147483648)] σ rfl ?_
      refine sw_ireturn k_X8_get rfl rfl ?_
      exact Or.inl ⟨by omega, rfl, rfl⟩
  · refine sw_blk k_X8_get 0 4 [(0, .inr (.inr 26)), (1, .inl s), (2, .inl f), (3, .inl i)] [.inl 0] σ rfl ?_
    refine sw_if_eq k_X8_get rfl (by decide) 16 7 (by decide) rfl (fun _ => ?_) (fun c => absurd (by decide) c)
    refine sw_blk k_X8_get 1 18 [(0, .inr (.inr 26)), (1, .inl s), (2, .inl f), (3, .inl i)] [.inl (-2147483648)] σ rfl ?_
    refine sw_ireturn k_X8_get rfl rfl ?_
    exact Or.inl ⟨by omega, rfl, rfl⟩
theorem lp_mRead (σ : sw_S) (hσ : sw_gs σ) (s : Int) (hs : (0 ≤ s ∧ s ≤ 3)) (h43 : 0 ≤ σ 43 s.toNat ∧ σ 43 s.toNat ≤ 60) (Q : Option sw_Vl → sw_S → Prop) (hQ : Q (some (.inl (σ 43 s.toNat))) (sw_pf σ 40 (fun j : Nat => max 0 (min (σ 44 (60 * s + (j : Int)).toNat) 99)) (σ 43 s.toNat).toNat)) : ∀ (n : Nat) (i : Nat), (i : Int) ≤ σ 43 s.toNat → 61 - i < n → sw_E sw_ly sw_rho M_X8_read 27 [(2, .inl (i : Int)), (0, .inr (.inr 26)), (1, .inl s)] [] (sw_pf σ 40 (fun j : Nat => max 0 (min (σ 44 (60 * s + (j : Int)).toNat) 99)) i) Q := by
  intro n
  induction n with
  | zero =>
    intro i hi hn
    omega
  | succ n ih =>
    intro i hi hn
    refine sw_blk k_X8_read 4 33 [(2, .inl (i : Int)), (0, .inr (.inr 26)), (1, .inl s)] [.inl s, .inr (.inr 43), .inl (i : Int)] (sw_pf σ 40 (fun j : Nat => max 0 (min (σ 44 (60 * s + (j : Int)).toNat) 99)) i) rfl ?_
    refine sw_iald k_X8_read rfl (i := 43) (n := 4) rfl (by decide) (by omega) (by omega) 34 rfl ?_
    refine sw_blk k_X8_read 0 34 [(2, .inl (i : Int)), (0, .inr (.inr 26)), (1, .inl s)] [.inl ((sw_pf σ 40 (fun j : Nat => max 0 (min (σ 44 (60 * s + (j : Int)).toNat) 99)) i) 43 s.toNat), .inl (i : Int)] (sw_pf σ 40 (fun j : Nat => max 0 (min (σ 44 (60 * s + (j : Int)).toNat) 99)) i) rfl ?_
    refine sw_icmp_ge k_X8_read rfl (by omega) (by first | exact hσ 43 s.toNat | exact hσ 44 (60 * s + (i : Int)).toNat) 81 37 (by decide) rfl (fun c1 => ?_) (fun c1 => ?_)
    · refine sw_blk k_X8_read 3 86 [(2, .inl (i : Int)), (0, .inr (.inr 26)), (1, .inl s)] [.inl s, .inr (.inr 43)] (sw_pf σ 40 (fun j : Nat => max 0 (min (σ 44 (60 * s + (j : Int)).toNat) 99)) i) rfl ?_
      refine sw_iald k_X8_read rfl (i := 43) (n := 4) rfl (by decide) (by omega) (by omega) 87 rfl ?_
      refine sw_blk k_X8_read 0 87 [(2, .inl (i : Int)), (0, .inr (.inr 26)), (1, .inl s)] [.inl ((sw_pf σ 40 (fun j : Nat => max 0 (min (σ 44 (60 * s + (j : Int)).toNat) 99)) i) 43 s.toNat)] (sw_pf σ 40 (fun j : Nat => max 0 (min (σ 44 (60 * s + (j : Int)).toNat) 99)) i) rfl ?_
      refine sw_ireturn k_X8_read rfl rfl ?_
      have e : (σ 43 s.toNat).toNat = i := by have c9 : (σ 43 s.toNat : Int) ≤ (i : Int) := c1; omega
      rw [e] at hQ
      exact hQ
    · have c9 : ¬ (σ 43 s.toNat : Int) ≤ (i : Int) := c1
      refine sw_blk k_X8_read 7 47 [(2, .inl (i : Int)), (0, .inr (.inr 26)), (1, .inl s)] [.inl ((60 * s) + (i : Int)), .inr (.inr 44)] (sw_pf σ 40 (fun j : Nat => max 0 (min (σ 44 (60 * s + (j : Int)).toNat) 99)) i) rfl ?_
      refine sw_iald k_X8_read rfl (i := 44) (n := 240) rfl (by decide) (by omega) (by omega) 48 rfl ?_
      refine sw_blk k_X8_read 5 55 [(3, .inl ((sw_pf σ 40 (fun j : Nat => max 0 (min (σ 44 (60 * s + (j : Int)).toNat) 99)) i) 44 (((60 * s) + (i : Int)).toNat))), (2, .inl (i : Int)), (0, .inr (.inr 26)), (1, .inl s)] [.inl ((sw_pf σ 40 (fun j : Nat => max 0 (min (σ 44 (60 * s + (j : Int)).toNat) 99)) i) 44 (((60 * s) + (i : Int)).toNat)), .inl (i : Int), .inr (.inr 40)] (sw_pf σ 40 (fun j : Nat => max 0 (min (σ 44 (60 * s + (j : Int)).toNat) 99)) i) rfl ?_
      refine sw_if_ge k_X8_read rfl (by first | exact hσ 43 s.toNat | exact hσ 44 (60 * s + (i : Int)).toNat) 62 58 (by decide) rfl (fun c2 => ?_) (fun c2 => ?_)
      · have c2 : 0 ≤ σ 44 (60 * s + (i : Int)).toNat := c2
        refine sw_blk k_X8_read 2 65 [(3, .inl ((sw_pf σ 40 (fun j : Nat => max 0 (min (σ 44 (60 * s + (j : Int)).toNat) 99)) i) 44 (((60 * s) + (i : Int)).toNat))), (2, .inl (i : Int)), (0, .inr (.inr 26)), (1, .inl s)] [.inl 99, .inl ((sw_pf σ 40 (fun j : Nat => max 0 (min (σ 44 (60 * s + (j : Int)).toNat) 99)) i) 44 (((60 * s) + (i : Int)).toNat)), .inl (i : Int), .inr (.inr 40)] (sw_pf σ 40 (fun j : Nat => max 0 (min (σ 44 (60 * s + (j : Int)).toNat) 99)) i) rfl ?_
        refine sw_icmp_le k_X8_read rfl (by first | exact hσ 43 s.toNat | exact hσ 44 (60 * s + (i : Int)).toNat) (by decide) 73 68 (by decide) rfl (fun c3 => ?_) (fun c3 => ?_)
        · have c3 : σ 44 (60 * s + (i : Int)).toNat ≤ 99 := c3
          refine sw_blk k_X8_read 1 74 [(3, .inl ((sw_pf σ 40 (fun j : Nat => max 0 (min (σ 44 (60 * s + (j : Int)).toNat) 99)) i) 44 (((60 * s) + (i : Int)).toNat))), (2, .inl (i : Int)), (0, .inr (.inr 26)), (1, .inl s)] [.inl ((sw_pf σ 40 (fun j : Nat => max 0 (min (σ 44 (60 * s + (j : Int)).toNat) 99)) i) 44 (((60 * s) + (i : Int)).toNat)), .inl (i : Int), .inr (.inr 40)] (sw_pf σ 40 (fun j : Nat => max 0 (min (σ 44 (60 * s + (j : Int)).toNat) 99)) i) rfl ?_
          refine sw_iast k_X8_read rfl (i := 40) (n := 60) rfl (by decide) (by omega) (by omega) 75 rfl ?_
          refine sw_blk k_X8_read 2 27 [(2, .inl ((i : Int) + 1)), (3, .inl ((sw_pf σ 40 (fun j : Nat => max 0 (min (σ 44 (60 * s + (j : Int)).toNat) 99)) i) 44 (((60 * s) + (i : Int)).toNat))), (0, .inr (.inr 26)), (1, .inl s)] [] (sw_u (sw_pf σ 40 (fun j : Nat => max 0 (min (σ 44 (60 * s + (j : Int)).toNat) 99)) i) 40 i ((sw_pf σ 40 (fun j : Nat => max 0 (min (σ 44 (60 * s + (j : Int)).toNat) 99)) i) 44 (((60 * s) + (i : Int)).toNat))) rfl ?_
          refine sw_Lsub [(2, .inl ((i : Int) + 1)), (0, .inr (.inr 26)), (1, .inl s)] [0, 2, 3] rfl ?_
          have gv := hσ 44 (60 * s + (i : Int)).toNat
          have ev : sw_pf σ 40 (fun j : Nat => max 0 (min (σ 44 (60 * s + (j : Int)).toNat) 99)) i 44 (60 * s + (i : Int)).toNat = σ 44 (60 * s + (i : Int)).toNat := sw_pf_row σ _ _ (by decide) _
          rw [sw_pf_s σ 40 (fun j : Nat => max 0 (min (σ 44 (60 * s + (j : Int)).toNat) 99)) i (by show (_ : Int) = max 0 (min (σ 44 (60 * s + (i : Int)).toNat) 99); omega)]
          exact ih (i + 1) (by omega) (by omega)
        · have c3 : ¬ (σ 44 (60 * s + (i : Int)).toNat ≤ 99) := c3
          refine sw_blk k_X8_read 2 74 [(3, .inl ((sw_pf σ 40 (fun j : Nat => max 0 (min (σ 44 (60 * s + (j : Int)).toNat) 99)) i) 44 (((60 * s) + (i : Int)).toNat))), (2, .inl (i : Int)), (0, .inr (.inr 26)), (1, .inl s)] [.inl 99, .inl (i : Int), .inr (.inr 40)] (sw_pf σ 40 (fun j : Nat => max 0 (min (σ 44 (60 * s + (j : Int)).toNat) 99)) i) rfl ?_
          refine sw_iast k_X8_read rfl (i := 40) (n := 60) rfl (by decide) (by omega) (by omega) 75 rfl ?_
          refine sw_blk k_X8_read 2 27 [(2, .inl ((i : Int) + 1)), (3, .inl ((sw_pf σ 40 (fun j : Nat => max 0 (min (σ 44 (60 * s + (j : Int)).toNat) 99)) i) 44 (((60 * s) + (i : Int)).toNat))), (0, .inr (.inr 26)), (1, .inl s)] [] (sw_u (sw_pf σ 40 (fun j : Nat => max 0 (min (σ 44 (60 * s + (j : Int)).toNat) 99)) i) 40 i 99) rfl ?_
          refine sw_Lsub [(2, .inl ((i : Int) + 1)), (0, .inr (.inr 26)), (1, .inl s)] [0, 2, 3] rfl ?_
          have gv := hσ 44 (60 * s + (i : Int)).toNat
          have ev : sw_pf σ 40 (fun j : Nat => max 0 (min (σ 44 (60 * s + (j : Int)).toNat) 99)) i 44 (60 * s + (i : Int)).toNat = σ 44 (60 * s + (i : Int)).toNat := sw_pf_row σ _ _ (by decide) _
          rw [sw_pf_s σ 40 (fun j : Nat => max 0 (min (σ 44 (60 * s + (j : Int)).toNat) 99)) i (by show (_ : Int) = max 0 (min (σ 44 (60 * s + (i : Int)).toNat) 99); omega)]
          exact ih (i + 1) (by omega) (by omega)
      · have c2 : ¬ (0 ≤ σ 44 (60 * s + (i : Int)).toNat) := c2
        refine sw_blk k_X8_read 2 74 [(3, .inl ((sw_pf σ 40 (fun j : Nat => max 0 (min (σ 44 (60 * s + (j : Int)).toNat) 99)) i) 44 (((60 * s) + (i : Int)).toNat))), (2, .inl (i : Int)), (0, .inr (.inr 26)), (1, .inl s)] [.inl 0, .inl (i : Int), .inr (.inr 40)] (sw_pf σ 40 (fun j : Nat => max 0 (min (σ 44 (60 * s + (j : Int)).toNat) 99)) i) rfl ?_
        refine sw_iast k_X8_read rfl (i := 40) (n := 60) rfl (by decide) (by omega) (by omega) 75 rfl ?_
        refine sw_blk k_X8_read 2 27 [(2, .inl ((i : Int) + 1)), (3, .inl ((sw_pf σ 40 (fun j : Nat => max 0 (min (σ 44 (60 * s + (j : Int)).toNat) 99)) i) 44 (((60 * s) + (i : Int)).toNat))), (0, .inr (.inr 26)), (1, .inl s)] [] (sw_u (sw_pf σ 40 (fun j : Nat => max 0 (min (σ 44 (60 * s + (j : Int)).toNat) 99)) i) 40 i 0) rfl ?_
        refine sw_Lsub [(2, .inl ((i : Int) + 1)), (0, .inr (.inr 26)), (1, .inl s)] [0, 2, 3] rfl ?_
        have gv := hσ 44 (60 * s + (i : Int)).toNat
        have ev : sw_pf σ 40 (fun j : Nat => max 0 (min (σ 44 (60 * s + (j : Int)).toNat) 99)) i 44 (60 * s + (i : Int)).toNat = σ 44 (60 * s + (i : Int)).toNat := sw_pf_row σ _ _ (by decide) _
        rw [sw_pf_s σ 40 (fun j : Nat => max 0 (min (σ 44 (60 * s + (j : Int)).toNat) 99)) i (by show (_ : Int) = max 0 (min (σ 44 (60 * s + (i : Int)).toNat) 99); omega)]
        exact ih (i + 1) (by omega) (by omega)
theorem mm_read (σ : sw_S) (hσ : sw_gs σ) (s : Int) (gs : sw_g s) (hz : ∀ j : Nat, j < 4 → 0 ≤ σ 43 j ∧ σ 43 j ≤ 60) : sw_Con sw_ly sw_rho M_X8_read [.inr (.inr 26), .inl s] σ (fun r σ' => (¬ (0 ≤ s ∧ s ≤ 3) ∧ r = some (.inl (-2)) ∧ σ = σ') ∨ (((0 ≤ s ∧ s ≤ 3) ∧ σ 41 s.toNat = 0) ∧ r = some (.inl (-10 - 1)) ∧ (sw_u σ 26 39 1) = σ') ∨ (((0 ≤ s ∧ s ≤ 3) ∧ ¬ σ 41 s.toNat = 0) ∧ r = some (.inl (σ 43 s.toNat)) ∧ (sw_pf σ 40 (fun j : Nat => max 0 (min (σ 44 (60 * s + (j : Int)).toNat) 99)) (σ 43 s.toNat).toNat) = σ')) := by
  refine sw_con (by decide) (Nat.le_of_ble_eq_true rfl) ?_
  refine sw_blk k_X8_read 1 1 [(0, .inr (.inr 26)), (1, .inl s)] [.inl s] σ rfl ?_
  refine sw_callS k_X8_read rfl cS_X8_isSheet ml_X8_194 ⟨by decide, by decide⟩ [.inl s] [] rfl rfl (Nat.le_of_ble_eq_true rfl) 4 rfl (sp_mSheet σ s (by omega)) (fun r2 σ3 hq4 => ?_)
  obtain ⟨rfl, ⟨p1, rfl⟩ | ⟨p1, rfl⟩⟩ := hq4
  · refine sw_blk k_X8_read 0 4 [(0, .inr (.inr 26)), (1, .inl s)] [.inl 1] σ rfl ?_
    refine sw_if_ne k_X8_read rfl (by decide) 10 7 (by decide) rfl (fun _ => ?_) (fun c => absurd c (by decide))
    refine sw_blk k_X8_read 3 15 [(0, .inr (.inr 26)), (1, .inl s)] [.inl s, .inr (.inr 41)] σ rfl ?_
    refine sw_zald k_X8_read rfl (i := 41) (n := 4) rfl (by decide) (by omega) (by omega) 16 rfl ?_
    refine sw_blk k_X8_read 0 16 [(0, .inr (.inr 26)), (1, .inl s)] [.inl (σ 41 s.toNat)] σ rfl ?_
    refine sw_if_ne k_X8_read rfl (hσ 41 _) 25 19 (by decide) rfl (fun c5 => ?_) (fun c5 => ?_)
    · refine sw_blk k_X8_read 2 27 [(2, .inl 0), (0, .inr (.inr 26)), (1, .inl s)] [] σ rfl ?_
      have h := lp_mRead σ hσ s (by omega) (hz s.toNat (by omega)) (fun r σ' => (¬ (0 ≤ s ∧ s ≤ 3) ∧ r = some (.inl (-2)) ∧ σ = σ') ∨ (((0 ≤ s ∧ s ≤ 3) ∧ σ 41 s.toNat = 0) ∧ r = some (.inl (-10 - 1)) ∧ (sw_u σ 26 39 1) = σ') ∨ (((0 ≤ s ∧ s ≤ 3) ∧ ¬ σ 41 s.toNat = 0) ∧ r = some (.inl (σ 43 s.toNat)) ∧ (sw_pf σ 40 (fun j : Nat => max 0 (min (σ 44 (60 * s + (j : Int)).toNat) 99)) (σ 43 s.toNat).toNat) = σ')) (Or.inr (Or.inr ⟨by omega, rfl, rfl⟩)) 62 0 (by have := hz s.toNat (by omega); omega) (by omega)
      rw [sw_pf_0] at h
      exact h
    · refine sw_blk k_X8_read 2 21 [(0, .inr (.inr 26)), (1, .inl s)] [.inl 1, .inr (.inr 26)] σ rfl ?_
      refine sw_callV k_X8_read rfl cV_X8_meets ml_X8_197 ⟨by decide, by decide⟩ 26 rfl rfl [.inl 1] [] rfl rfl (Nat.le_of_ble_eq_true rfl) 24 rfl (sp_meets σ 1) (fun r6 σ7 hq8 => ?_)
      obtain ⟨rfl, rfl⟩ := hq8
      refine sw_blk k_X8_read 0 24 [(0, .inr (.inr 26)), (1, .inl s)] [.inl (-10 - 1)] (sw_u σ 26 39 1) rfl ?_
      refine sw_ireturn k_X8_read rfl rfl ?_
      exact Or.inr (Or.inl ⟨by omega, rfl, rfl⟩)
  · refine sw_blk k_X8_read 0 4 [(0, .inr (.inr 26)), (1, .inl s)] [.inl 0] σ rfl ?_
    refine sw_if_ne k_X8_read rfl (by decide) 10 7 (by decide) rfl (fun c => absurd (by decide) c) (fun _ => ?_)
    refine sw_blk k_X8_read 1 9 [(0, .inr (.inr 26)), (1, .inl s)] [.inl (-2)] σ rfl ?_
    refine sw_ireturn k_X8_read rfl rfl ?_
    exact Or.inl ⟨by omega, rfl, rfl⟩
