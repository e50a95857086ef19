abbrev sw_gs (σ : sw_S) : Prop := ∀ i j, sw_g (σ i j)
theorem sw_gs_u {σ : sw_S} (h : sw_gs σ) (i j : Nat) {v : Int} (hv : sw_g v) : sw_gs (sw_u σ i j v) := by
  intro a b
  unfold sw_u
  split
  · exact hv
  · exact h a b
theorem sw_Lsub {ly : sw_Ly} {ρ : sw_Rf} {M : sw_M} {pc : Nat} {L : sw_L} {st : List sw_Vl} {σ : sw_S} {Q : Option sw_Vl → sw_S → Prop} (L' : sw_L) (ks : List Nat) (hl : ks.filterMap (fun k => L[k]?) = L') (k : sw_E ly ρ M pc L' st σ Q) : sw_E ly ρ M pc L st σ Q := by
  intro l D c3 ad p e s m args below meth c H locs ls C hP hS hls
  refine k l D c3 ad p e s m args below meth c H locs ls C hP hS ⟨hls.1, hls.2.1, fun q hq => hls.2.2 q ?_⟩
  obtain ⟨v, hv, rfl⟩ := List.mem_map.mp hq
  rw [← hl] at hv
  obtain ⟨i, -, hi⟩ := List.mem_filterMap.mp hv
  exact List.mem_map.mpr ⟨v, List.mem_of_getElem? hi, rfl⟩
def sw_cnt (f : Nat → Int) : Nat → Int
  | 0 => 0
  | n + 1 => sw_cnt f n + (if f n = 0 then 0 else 1)
theorem sp_has (σ : sw_S) (p : Int) (gp : sw_g p) (h1_0 : sw_g (σ 1 0)) : sw_Con sw_ly sw_rho M_X3_has [.inr (.inr 1), .inl p] σ (fun r σ' => σ = σ' ∧ ((0 ≤ p ∧ p ≤ σ 1 0) ∧ r = some (.inl 1) ∨ ¬ (0 ≤ p ∧ p ≤ σ 1 0) ∧ r = some (.inl 0))) := by
  refine sw_con (by decide) (Nat.le_of_ble_eq_true rfl) ?_
  refine sw_blk k_X3_has 1 1 [(0, .inr (.inr 1)), (1, .inl p)] [.inl p] σ rfl ?_
  refine sw_if_lt k_X3_has rfl (by omega) 16 4 (by decide) rfl (fun c1 => ?_) (fun c1 => ?_)
  · refine sw_blk k_X3_has 1 17 [(0, .inr (.inr 1)), (1, .inl p)] [.inl 0] σ rfl ?_
    refine sw_zreturn k_X3_has rfl rfl (by decide) ?_
    exact ⟨rfl, Or.inr ⟨by omega, rfl⟩⟩
  · refine sw_blk k_X3_has 3 9 [(0, .inr (.inr 1)), (1, .inl p)] [.inl (σ 1 0), .inl p] σ rfl ?_
    refine sw_icmp_gt k_X3_has rfl (by omega) h1_0 16 12 (by decide) rfl (fun c2 => ?_) (fun c2 => ?_)
    · refine sw_blk k_X3_has 1 17 [(0, .inr (.inr 1)), (1, .inl p)] [.inl 0] σ rfl ?_
      refine sw_zreturn k_X3_has rfl rfl (by decide) ?_
      exact ⟨rfl, Or.inr ⟨by omega, rfl⟩⟩
    · refine sw_blk k_X3_has 2 17 [(0, .inr (.inr 1)), (1, .inl p)] [.inl 1] σ rfl ?_
      refine sw_zreturn k_X3_has rfl rfl (by decide) ?_
      exact ⟨rfl, Or.inl ⟨by omega, rfl⟩⟩
theorem sp_rests (σ : sw_S) (h5_9 : sw_g (σ 5 9)) : sw_Con sw_ly sw_rho M_X6_rests [.inr (.inr 5)] σ (fun r σ' => σ = σ' ∧ ((σ 5 9 = 0) ∧ r = some (.inl 1) ∨ ¬ (σ 5 9 = 0) ∧ r = some (.inl 0))) := by
  refine sw_con (by decide) (Nat.le_of_ble_eq_true rfl) ?_
  refine sw_blk k_X6_rests 2 4 [(0, .inr (.inr 5))] [.inl (σ 5 9)] σ rfl ?_
  refine sw_if_ne k_X6_rests rfl h5_9 11 7 (by decide) rfl (fun c1 => ?_) (fun c1 => ?_)
  · refine sw_blk k_X6_rests 1 12 [(0, .inr (.inr 5))] [.inl 0] σ rfl ?_
    refine sw_zreturn k_X6_rests rfl rfl (by decide) ?_
    exact ⟨rfl, Or.inr ⟨by omega, rfl⟩⟩
  · refine sw_blk k_X6_rests 2 12 [(0, .inr (.inr 5))] [.inl 1] σ rfl ?_
    refine sw_zreturn k_X6_rests rfl rfl (by decide) ?_
    exact ⟨rfl, Or.inl ⟨by omega, rfl⟩⟩
theorem lp_openLinks (σ : sw_S) (hσ : ∀ j, sw_g (σ 8 j)) (Q : Option sw_Vl → sw_S → Prop) (hQ : Q (some (.inl (sw_cnt (σ 8) 8))) σ) : ∀ (n : Nat) (l : Nat) (o : Int), l ≤ 8 → o = sw_cnt (σ 8) l → 8 - l < n → sw_E sw_ly sw_rho M_X6_openLinks 4 [(2, .inl (l : Int)), (1, .inl o), (0, .inr (.inr 5))] [] σ Q := by
  intro n
  induction n with
  | zero =>
    intro l o hl ho hm
    omega
  | succ n ih =>
    intro l o hl ho hm
    refine sw_blk k_X6_openLinks 2 7 [(2, .inl (l : Int)), (1, .inl o), (0, .inr (.inr 5))] [.inl 8, .inl (l : Int)] σ rfl ?_
    refine sw_icmp_ge k_X6_openLinks rfl (by omega) (by decide) 28 10 (by decide) rfl (fun c1 => ?_) (fun c1 => ?_)
    · refine sw_blk k_X6_openLinks 1 29 [(2, .inl (l : Int)), (1, .inl o), (0, .inr (.inr 5))] [.inl o] σ rfl ?_
      refine sw_ireturn k_X6_openLinks rfl rfl ?_
      have e8 : l = 8 := by omega
      subst e8
      rw [ho]
      exact hQ
    · refine sw_blk k_X6_openLinks 3 15 [(2, .inl (l : Int)), (1, .inl o), (0, .inr (.inr 5))] [.inl (l : Int), .inr (.inr 8)] σ rfl ?_
      refine sw_zald k_X6_openLinks rfl (i := 8) (n := 8) rfl (by decide) (by omega) (by omega) 16 rfl ?_
      refine sw_blk k_X6_openLinks 0 16 [(2, .inl (l : Int)), (1, .inl o), (0, .inr (.inr 5))] [.inl (σ 8 ((l : Int).toNat))] σ rfl ?_
      refine sw_if_eq k_X6_openLinks rfl (hσ _) 22 19 (by decide) rfl (fun c2 => ?_) (fun c2 => ?_)
      · refine sw_blk k_X6_openLinks 2 4 [(2, .inl ((l : Int) + 1)), (1, .inl o), (0, .inr (.inr 5))] [] σ rfl ?_
        exact ih (l + 1) _ (by omega) (by rw [sw_cnt, ho]; simp only [show σ 8 l = 0 ↔ σ 8 ((l : Int).toNat) = 0 from Iff.rfl, *]; simp) (by omega)
      · refine sw_blk k_X6_openLinks 3 4 [(2, .inl ((l : Int) + 1)), (1, .inl (o + 1)), (0, .inr (.inr 5))] [] σ rfl ?_
        exact ih (l + 1) _ (by omega) (by rw [sw_cnt, ho]; simp only [show σ 8 l = 0 ↔ σ 8 ((l : Int).toNat) = 0 from Iff.rfl, *]; simp) (by omega)
theorem sp_openLinks (σ : sw_S) (hσ : ∀ j, sw_g (σ 8 j)) : sw_Con sw_ly sw_rho M_X6_openLinks [.inr (.inr 5)] σ (fun r σ' => σ = σ' ∧ r = some (.inl (sw_cnt (σ 8) 8))) := by
  refine sw_con (by decide) (Nat.le_of_ble_eq_true rfl) ?_
  refine sw_blk k_X6_openLinks 4 4 [(2, .inl 0), (1, .inl 0), (0, .inr (.inr 5))] [] σ rfl ?_
  exact lp_openLinks σ hσ _ ⟨rfl, rfl⟩ 9 0 0 (by omega) rfl (by omega)
theorem lp_opens (σ : sw_S) (hσ : ∀ j, sw_g (σ 32 j)) (Q : Option sw_Vl → sw_S → Prop) (hQ : Q (some (.inl (sw_cnt (σ 32) 8))) σ) : ∀ (n : Nat) (l : Nat) (o : Int), l ≤ 8 → o = sw_cnt (σ 32) l → 8 - l < n → sw_E sw_ly sw_rho M_X8_opens 4 [(2, .inl (l : Int)), (1, .inl o), (0, .inr (.inr 26))] [] σ Q := by
  intro n
  induction n with
  | zero =>
    intro l o hl ho hm
    omega
  | succ n ih =>
    intro l o hl ho hm
    refine sw_blk k_X8_opens 2 7 [(2, .inl (l : Int)), (1, .inl o), (0, .inr (.inr 26))] [.inl 8, .inl (l : Int)] σ rfl ?_
    refine sw_icmp_ge k_X8_opens rfl (by omega) (by decide) 33 10 (by decide) rfl (fun c1 => ?_) (fun c1 => ?_)
    · refine sw_blk k_X8_opens 1 34 [(2, .inl (l : Int)), (1, .inl o), (0, .inr (.inr 26))] [.inl o] σ rfl ?_
      refine sw_ireturn k_X8_opens rfl rfl ?_
      have e8 : l = 8 := by omega
      subst e8
      rw [ho]
      exact hQ
    · refine sw_blk k_X8_opens 4 16 [(2, .inl (l : Int)), (1, .inl o), (0, .inr (.inr 26))] [.inl (l : Int), .inr (.inr 32), .inl o] σ rfl ?_
      refine sw_zald k_X8_opens rfl (i := 32) (n := 8) rfl (by decide) (by omega) (by omega) 17 rfl ?_
      refine sw_blk k_X8_opens 0 17 [(2, .inl (l : Int)), (1, .inl o), (0, .inr (.inr 26))] [.inl (σ 32 ((l : Int).toNat)), .inl o] σ rfl ?_
      refine sw_if_eq k_X8_opens rfl (hσ _) 24 20 (by decide) rfl (fun c2 => ?_) (fun c2 => ?_)
      · refine sw_blk k_X8_opens 5 4 [(2, .inl ((l : Int) + 1)), (1, .inl (o + 0)), (0, .inr (.inr 26))] [] σ rfl ?_
        exact ih (l + 1) _ (by omega) (by rw [sw_cnt, ho]; simp only [show σ 32 l = 0 ↔ σ 32 ((l : Int).toNat) = 0 from Iff.rfl, *]; simp) (by omega)
      · refine sw_blk k_X8_opens 6 4 [(2, .inl ((l : Int) + 1)), (1, .inl (o + 1)), (0, .inr (.inr 26))] [] σ rfl ?_
        exact ih (l + 1) _ (by omega) (by rw [sw_cnt, ho]; simp only [show σ 32 l = 0 ↔ σ 32 ((l : Int).toNat) = 0 from Iff.rfl, *]; simp) (by omega)
theorem sp_opens (σ : sw_S) (hσ : ∀ j, sw_g (σ 32 j)) : sw_Con sw_ly sw_rho M_X8_opens [.inr (.inr 26)] σ (fun r σ' => σ = σ' ∧ r = some (.inl (sw_cnt (σ 32) 8))) := by
  refine sw_con (by decide) (Nat.le_of_ble_eq_true rfl) ?_
  refine sw_blk k_X8_opens 4 4 [(2, .inl 0), (1, .inl 0), (0, .inr (.inr 26))] [] σ rfl ?_
  exact lp_opens σ hσ _ ⟨rfl, rfl⟩ 9 0 0 (by omega) rfl (by omega)
theorem sp_told (σ : sw_S) (h9_0 : sw_g (σ 9 0)) (h9_1 : sw_g (σ 9 1)) (h9_2 : sw_g (σ 9 2)) : sw_Con sw_ly sw_rho M_X6_told [.inr (.inr 5)] σ (fun r σ' => σ = σ' ∧ r = some (.inl (σ 5 7 + σ 9 0 + σ 9 1 + σ 9 2 - min (σ 9 0) (min (σ 9 1) (σ 9 2)) - max (σ 9 0) (max (σ 9 1) (σ 9 2))))) := by
  refine sw_con (by decide) (Nat.le_of_ble_eq_true rfl) ?_
  refine sw_blk k_X6_told 3 5 [(0, .inr (.inr 5))] [.inl 0, .inr (.inr 9)] σ rfl ?_
  refine sw_iald k_X6_told rfl (i := 9) (n := 3) rfl (by decide) (by decide) (by decide) 6 rfl ?_
  refine sw_blk k_X6_told 3 11 [(0, .inr (.inr 5))] [.inl 1, .inr (.inr 9), .inl (σ 9 0)] σ rfl ?_
  refine sw_iald k_X6_told rfl (i := 9) (n := 3) rfl (by decide) (by decide) (by decide) 12 rfl ?_
  refine sw_blk k_X6_told 3 17 [(0, .inr (.inr 5))] [.inl 2, .inr (.inr 9), .inl (σ 9 1), .inl (σ 9 0)] σ rfl ?_
  refine sw_iald k_X6_told rfl (i := 9) (n := 3) rfl (by decide) (by decide) (by decide) 18 rfl ?_
  refine sw_blk k_X6_told 0 18 [(0, .inr (.inr 5))] [.inl (σ 9 2), .inl (σ 9 1), .inl (σ 9 0)] σ rfl ?_
  refine sw_callS k_X6_told rfl cS_J9_min_7cf53 ml_X6_43 ⟨by decide, by decide⟩ [.inl (σ 9 1), .inl (σ 9 2)] [.inl (σ 9 0)] rfl rfl (Nat.le_of_ble_eq_true rfl) 21 rfl (sp_min σ (σ 9 1) (σ 9 2) h9_1 h9_2) (fun r1 σ2 hq3 => ?_)
  obtain ⟨rfl, rfl⟩ := hq3
  refine sw_blk k_X6_told 0 21 [(0, .inr (.inr 5))] [.inl (min (σ 9 1) (σ 9 2)), .inl (σ 9 0)] σ rfl ?_
  refine sw_callS k_X6_told rfl cS_J9_min_7cf53 ml_X6_43 ⟨by decide, by decide⟩ [.inl (σ 9 0), .inl (min (σ 9 1) (σ 9 2))] [] rfl rfl (Nat.le_of_ble_eq_true rfl) 24 rfl (sp_min σ (σ 9 0) (min (σ 9 1) (σ 9 2)) h9_0 (by omega)) (fun r4 σ5 hq6 => ?_)
  obtain ⟨rfl, rfl⟩ := hq6
  refine sw_blk k_X6_told 4 30 [(1, .inl (min (σ 9 0) (min (σ 9 1) (σ 9 2)))), (0, .inr (.inr 5))] [.inl 0, .inr (.inr 9)] σ rfl ?_
  refine sw_iald k_X6_told rfl (i := 9) (n := 3) rfl (by decide) (by decide) (by decide) 31 rfl ?_
  refine sw_blk k_X6_told 3 36 [(1, .inl (min (σ 9 0) (min (σ 9 1) (σ 9 2)))), (0, .inr (.inr 5))] [.inl 1, .inr (.inr 9), .inl (σ 9 0)] σ rfl ?_
  refine sw_iald k_X6_told rfl (i := 9) (n := 3) rfl (by decide) (by decide) (by decide) 37 rfl ?_
  refine sw_blk k_X6_told 3 42 [(1, .inl (min (σ 9 0) (min (σ 9 1) (σ 9 2)))), (0, .inr (.inr 5))] [.inl 2, .inr (.inr 9), .inl (σ 9 1), .inl (σ 9 0)] σ rfl ?_
  refine sw_iald k_X6_told rfl (i := 9) (n := 3) rfl (by decide) (by decide) (by decide) 43 rfl ?_
  refine sw_blk k_X6_told 0 43 [(1, .inl (min (σ 9 0) (min (σ 9 1) (σ 9 2)))), (0, .inr (.inr 5))] [.inl (σ 9 2), .inl (σ 9 1), .inl (σ 9 0)] σ rfl ?_
  refine sw_callS k_X6_told rfl cS_J9_max_7cf53 ml_X6_49 ⟨by decide, by decide⟩ [.inl (σ 9 1), .inl (σ 9 2)] [.inl (σ 9 0)] rfl rfl (Nat.le_of_ble_eq_true rfl) 46 rfl (sp_max σ (σ 9 1) (σ 9 2) h9_1 h9_2) (fun r7 σ8 hq9 => ?_)
  obtain ⟨rfl, rfl⟩ := hq9
  refine sw_blk k_X6_told 0 46 [(1, .inl (min (σ 9 0) (min (σ 9 1) (σ 9 2)))), (0, .inr (.inr 5))] [.inl (max (σ 9 1) (σ 9 2)), .inl (σ 9 0)] σ rfl ?_
  refine sw_callS k_X6_told rfl cS_J9_max_7cf53 ml_X6_49 ⟨by decide, by decide⟩ [.inl (σ 9 0), .inl (max (σ 9 1) (σ 9 2))] [] rfl rfl (Nat.le_of_ble_eq_true rfl) 49 rfl (sp_max σ (σ 9 0) (max (σ 9 1) (σ 9 2)) h9_0 (by omega)) (fun r10 σ11 hq12 => ?_)
  obtain ⟨rfl, rfl⟩ := hq12
  refine sw_blk k_X6_told 6 59 [(2, .inl (max (σ 9 0) (max (σ 9 1) (σ 9 2)))), (1, .inl (min (σ 9 0) (min (σ 9 1) (σ 9 2)))), (0, .inr (.inr 5))] [.inl 0, .inr (.inr 9), .inl (σ 5 7)] σ rfl ?_
  refine sw_iald k_X6_told rfl (i := 9) (n := 3) rfl (by decide) (by decide) (by decide) 60 rfl ?_
  refine sw_blk k_X6_told 4 66 [(2, .inl (max (σ 9 0) (max (σ 9 1) (σ 9 2)))), (1, .inl (min (σ 9 0) (min (σ 9 1) (σ 9 2)))), (0, .inr (.inr 5))] [.inl 1, .inr (.inr 9), .inl ((σ 5 7) + (σ 9 0))] σ rfl ?_
  refine sw_iald k_X6_told rfl (i := 9) (n := 3) rfl (by decide) (by decide) (by decide) 67 rfl ?_
  refine sw_blk k_X6_told 4 73 [(2, .inl (max (σ 9 0) (max (σ 9 1) (σ 9 2)))), (1, .inl (min (σ 9 0) (min (σ 9 1) (σ 9 2)))), (0, .inr (.inr 5))] [.inl 2, .inr (.inr 9), .inl (((σ 5 7) + (σ 9 0)) + (σ 9 1))] σ rfl ?_
  refine sw_iald k_X6_told rfl (i := 9) (n := 3) rfl (by decide) (by decide) (by decide) 74 rfl ?_
  refine sw_blk k_X6_told 5 79 [(2, .inl (max (σ 9 0) (max (σ 9 1) (σ 9 2)))), (1, .inl (min (σ 9 0) (min (σ 9 1) (σ 9 2)))), (0, .inr (.inr 5))] [.inl ((((((σ 5 7) + (σ 9 0)) + (σ 9 1)) + (σ 9 2)) - (min (σ 9 0) (min (σ 9 1) (σ 9 2)))) - (max (σ 9 0) (max (σ 9 1) (σ 9 2))))] σ rfl ?_
  refine sw_ireturn k_X6_told rfl rfl ?_
  exact ⟨rfl, congrArg (fun q : Int => some (Sum.inl q)) (show (((((((σ 5 7) + (σ 9 0)) + (σ 9 1)) + (σ 9 2)) - (min (σ 9 0) (min (σ 9 1) (σ 9 2)))) - (max (σ 9 0) (max (σ 9 1) (σ 9 2)))) : Int) = σ 5 7 + σ 9 0 + σ 9 1 + σ 9 2 - min (σ 9 0) (min (σ 9 1) (σ 9 2)) - max (σ 9 0) (max (σ 9 1) (σ 9 2)) from by omega)⟩
theorem sp_mtold (σ : sw_S) (h33_0 : sw_g (σ 33 0)) (h33_1 : sw_g (σ 33 1)) (h33_2 : sw_g (σ 33 2)) : sw_Con sw_ly sw_rho M_X8_told [.inr (.inr 26)] σ (fun r σ' => σ = σ' ∧ r = some (.inl (σ 26 10 + (σ 33 0 + σ 33 1 + σ 33 2 - min (σ 33 0) (min (σ 33 1) (σ 33 2)) - max (σ 33 0) (max (σ 33 1) (σ 33 2)))))) := by
  refine sw_con (by decide) (Nat.le_of_ble_eq_true rfl) ?_
  refine sw_blk k_X8_told 3 5 [(0, .inr (.inr 26))] [.inl 0, .inr (.inr 33)] σ rfl ?_
  refine sw_iald k_X8_told rfl (i := 33) (n := 3) rfl (by decide) (by decide) (by decide) 6 rfl ?_
  refine sw_blk k_X8_told 4 12 [(1, .inl (σ 33 0)), (0, .inr (.inr 26))] [.inl 1, .inr (.inr 33)] σ rfl ?_
  refine sw_iald k_X8_told rfl (i := 33) (n := 3) rfl (by decide) (by decide) (by decide) 13 rfl ?_
  refine sw_blk k_X8_told 4 19 [(2, .inl (σ 33 1)), (1, .inl (σ 33 0)), (0, .inr (.inr 26))] [.inl 2, .inr (.inr 33)] σ rfl ?_
  refine sw_iald k_X8_told rfl (i := 33) (n := 3) rfl (by decide) (by decide) (by decide) 20 rfl ?_
  refine sw_blk k_X8_told 3 23 [(3, .inl (σ 33 2)), (2, .inl (σ 33 1)), (1, .inl (σ 33 0)), (0, .inr (.inr 26))] [.inl (σ 33 1), .inl (σ 33 0)] σ rfl ?_
  refine sw_icmp_ge k_X8_told rfl h33_0 h33_1 30 26 (by decide) rfl (fun c1 => ?_) (fun c1 => ?_)
  · refine sw_blk k_X8_told 4 35 [(4, .inl (σ 33 1)), (3, .inl (σ 33 2)), (2, .inl (σ 33 1)), (1, .inl (σ 33 0)), (0, .inr (.inr 26))] [.inl (σ 33 1), .inl (σ 33 0)] σ rfl ?_
    refine sw_icmp_ge k_X8_told rfl h33_0 h33_1 42 38 (by decide) rfl (fun c2 => ?_) (fun c2 => ?_)
    · refine sw_blk k_X8_told 6 52 [(5, .inl (σ 33 0)), (4, .inl (σ 33 1)), (3, .inl (σ 33 2)), (2, .inl (σ 33 1)), (1, .inl (σ 33 0)), (0, .inr (.inr 26))] [.inl (σ 33 1), .inl (σ 33 2), .inl (σ 26 10)] σ rfl ?_
      refine sw_icmp_ge k_X8_told rfl h33_2 h33_1 60 55 (by decide) rfl (fun c3 => ?_) (fun c3 => ?_)
      · refine sw_blk k_X8_told 2 63 [(5, .inl (σ 33 0)), (4, .inl (σ 33 1)), (3, .inl (σ 33 2)), (2, .inl (σ 33 1)), (1, .inl (σ 33 0)), (0, .inr (.inr 26))] [.inl (σ 33 0), .inl (σ 33 2), .inl (σ 26 10)] σ rfl ?_
        refine sw_icmp_le k_X8_told rfl h33_2 h33_0 71 66 (by decide) rfl (fun c4 => ?_) (fun c4 => ?_)
        · refine sw_blk k_X8_told 2 73 [(5, .inl (σ 33 0)), (4, .inl (σ 33 1)), (3, .inl (σ 33 2)), (2, .inl (σ 33 1)), (1, .inl (σ 33 0)), (0, .inr (.inr 26))] [.inl ((σ 26 10) + (σ 33 2))] σ rfl ?_
          refine sw_ireturn k_X8_told rfl rfl ?_
          exact ⟨rfl, congrArg (fun q : Int => some (Sum.inl q)) (show (((σ 26 10) + (σ 33 2)) : Int) = σ 26 10 + (σ 33 0 + σ 33 1 + σ 33 2 - min (σ 33 0) (min (σ 33 1) (σ 33 2)) - max (σ 33 0) (max (σ 33 1) (σ 33 2))) from by omega)⟩
        · refine sw_blk k_X8_told 3 73 [(5, .inl (σ 33 0)), (4, .inl (σ 33 1)), (3, .inl (σ 33 2)), (2, .inl (σ 33 1)), (1, .inl (σ 33 0)), (0, .inr (.inr 26))] [.inl ((σ 26 10) + (σ 33 0))] σ rfl ?_
          refine sw_ireturn k_X8_told rfl rfl ?_
          exact ⟨rfl, congrArg (fun q : Int => some (Sum.inl q)) (show (((σ 26 10) + (σ 33 0)) : Int) = σ 26 10 + (σ 33 0 + σ 33 1 + σ 33 2 - min (σ 33 0) (min (σ 33 1) (σ 33 2)) - max (σ 33 0) (max (σ 33 1) (σ 33 2))) from by omega)⟩
      · refine sw_blk k_X8_told 3 73 [(5, .inl (σ 33 0)), (4, .inl (σ 33 1)), (3, .inl (σ 33 2)), (2, .inl (σ 33 1)), (1, .inl (σ 33 0)), (0, .inr (.inr 26))] [.inl ((σ 26 10) + (σ 33 1))] σ rfl ?_
        refine sw_ireturn k_X8_told rfl rfl ?_
        exact ⟨rfl, congrArg (fun q : Int => some (Sum.inl q)) (show (((σ 26 10) + (σ 33 1)) : Int) = σ 26 10 + (σ 33 0 + σ 33 1 + σ 33 2 - min (σ 33 0) (min (σ 33 1) (σ 33 2)) - max (σ 33 0) (max (σ 33 1) (σ 33 2))) from by omega)⟩
    · refine sw_blk k_X8_told 7 52 [(5, .inl (σ 33 1)), (4, .inl (σ 33 1)), (3, .inl (σ 33 2)), (2, .inl (σ 33 1)), (1, .inl (σ 33 0)), (0, .inr (.inr 26))] [.inl (σ 33 1), .inl (σ 33 2), .inl (σ 26 10)] σ rfl ?_
      refine sw_icmp_ge k_X8_told rfl h33_2 h33_1 60 55 (by decide) rfl (fun c5 => ?_) (fun c5 => ?_)
      · refine sw_blk k_X8_told 2 63 [(5, .inl (σ 33 1)), (4, .inl (σ 33 1)), (3, .inl (σ 33 2)), (2, .inl (σ 33 1)), (1, .inl (σ 33 0)), (0, .inr (.inr 26))] [.inl (σ 33 1), .inl (σ 33 2), .inl (σ 26 10)] σ rfl ?_
        refine sw_icmp_le k_X8_told rfl h33_2 h33_1 71 66 (by decide) rfl (fun c6 => ?_) (fun c6 => ?_)
        · refine sw_blk k_X8_told 2 73 [(5, .inl (σ 33 1)), (4, .inl (σ 33 1)), (3, .inl (σ 33 2)), (2, .inl (σ 33 1)), (1, .inl (σ 33 0)), (0, .inr (.inr 26))] [.inl ((σ 26 10) + (σ 33 2))] σ rfl ?_
          refine sw_ireturn k_X8_told rfl rfl ?_
          exact ⟨rfl, congrArg (fun q : Int => some (Sum.inl q)) (show (((σ 26 10) + (σ 33 2)) : Int) = σ 26 10 + (σ 33 0 + σ 33 1 + σ 33 2 - min (σ 33 0) (min (σ 33 1) (σ 33 2)) - max (σ 33 0) (max (σ 33 1) (σ 33 2))) from by omega)⟩
        · refine sw_blk k_X8_told 3 73 [(5, .inl (σ 33 1)), (4, .inl (σ 33 1)), (3, .inl (σ 33 2)), (2, .inl (σ 33 1)), (1, .inl (σ 33 0)), (0, .inr (.inr 26))] [.inl ((σ 26 10) + (σ 33 1))] σ rfl ?_
          refine sw_ireturn k_X8_told rfl rfl ?_
          exact ⟨rfl, congrArg (fun q : Int => some (Sum.inl q)) (show (((σ 26 10) + (σ 33 1)) : Int) = σ 26 10 + (σ 33 0 + σ 33 1 + σ 33 2 - min (σ 33 0) (min (σ 33 1) (σ 33 2)) - max (σ 33 0) (max (σ 33 1) (σ 33 2))) from by omega)⟩
      · refine sw_blk k_X8_told 3 73 [(5, .inl (σ 33 1)), (4, .inl (σ 33 1)), (3, .inl (σ 33 2)), (2, .inl (σ 33 1)), (1, .inl (σ 33 0)), (0, .inr (.inr 26))] [.inl ((σ 26 10) + (σ 33 1))] σ rfl ?_
        refine sw_ireturn k_X8_told rfl rfl ?_
        exact ⟨rfl, congrArg (fun q : Int => some (Sum.inl q)) (show (((σ 26 10) + (σ 33 1)) : Int) = σ 26 10 + (σ 33 0 + σ 33 1 + σ 33 2 - min (σ 33 0) (min (σ 33 1) (σ 33 2)) - max (σ 33 0) (max (σ 33 1) (σ 33 2))) from by omega)⟩
  · refine sw_blk k_X8_told 5 35 [(4, .inl (σ 33 0)), (3, .inl (σ 33 2)), (2, .inl (σ 33 1)), (1, .inl (σ 33 0)), (0, .inr (.inr 26))] [.inl (σ 33 1), .inl (σ 33 0)] σ rfl ?_
    refine sw_icmp_ge k_X8_told rfl h33_0 h33_1 42 38 (by decide) rfl (fun c7 => ?_) (fun c7 => ?_)
    · refine sw_blk k_X8_told 6 52 [(5, .inl (σ 33 0)), (4, .inl (σ 33 0)), (3, .inl (σ 33 2)), (2, .inl (σ 33 1)), (1, .inl (σ 33 0)), (0, .inr (.inr 26))] [.inl (σ 33 0), .inl (σ 33 2), .inl (σ 26 10)] σ rfl ?_
      refine sw_icmp_ge k_X8_told rfl h33_2 h33_0 60 55 (by decide) rfl (fun c8 => ?_) (fun c8 => ?_)
      · refine sw_blk k_X8_told 2 63 [(5, .inl (σ 33 0)), (4, .inl (σ 33 0)), (3, .inl (σ 33 2)), (2, .inl (σ 33 1)), (1, .inl (σ 33 0)), (0, .inr (.inr 26))] [.inl (σ 33 0), .inl (σ 33 2), .inl (σ 26 10)] σ rfl ?_
        refine sw_icmp_le k_X8_told rfl h33_2 h33_0 71 66 (by decide) rfl (fun c9 => ?_) (fun c9 => ?_)
        · refine sw_blk k_X8_told 2 73 [(5, .inl (σ 33 0)), (4, .inl (σ 33 0)), (3, .inl (σ 33 2)), (2, .inl (σ 33 1)), (1, .inl (σ 33 0)), (0, .inr (.inr 26))] [.inl ((σ 26 10) + (σ 33 2))] σ rfl ?_
          refine sw_ireturn k_X8_told rfl rfl ?_
          exact ⟨rfl, congrArg (fun q : Int => some (Sum.inl q)) (show (((σ 26 10) + (σ 33 2)) : Int) = σ 26 10 + (σ 33 0 + σ 33 1 + σ 33 2 - min (σ 33 0) (min (σ 33 1) (σ 33 2)) - max (σ 33 0) (max (σ 33 1) (σ 33 2))) from by omega)⟩
        · refine sw_blk k_X8_told 3 73 [(5, .inl (σ 33 0)), (4, .inl (σ 33 0)), (3, .inl (σ 33 2)), (2, .inl (σ 33 1)), (1, .inl (σ 33 0)), (0, .inr (.inr 26))] [.inl ((σ 26 10) + (σ 33 0))] σ rfl ?_
          refine sw_ireturn k_X8_told rfl rfl ?_
          exact ⟨rfl, congrArg (fun q : Int => some (Sum.inl q)) (show (((σ 26 10) + (σ 33 0)) : Int) = σ 26 10 + (σ 33 0 + σ 33 1 + σ 33 2 - min (σ 33 0) (min (σ 33 1) (σ 33 2)) - max (σ 33 0) (max (σ 33 1) (σ 33 2))) from by omega)⟩
      · refine sw_blk k_X8_told 3 73 [(5, .inl (σ 33 0)), (4, .inl (σ 33 0)), (3, .inl (σ 33 2)), (2, .inl (σ 33 1)), (1, .inl (σ 33 0)), (0, .inr (.inr 26))] [.inl ((σ 26 10) + (σ 33 0))] σ rfl ?_
        refine sw_ireturn k_X8_told rfl rfl ?_
        exact ⟨rfl, congrArg (fun q : Int => some (Sum.inl q)) (show (((σ 26 10) + (σ 33 0)) : Int) = σ 26 10 + (σ 33 0 + σ 33 1 + σ 33 2 - min (σ 33 0) (min (σ 33 1) (σ 33 2)) - max (σ 33 0) (max (σ 33 1) (σ 33 2))) from by omega)⟩
    · refine sw_blk k_X8_told 7 52 [(5, .inl (σ 33 1)), (4, .inl (σ 33 0)), (3, .inl (σ 33 2)), (2, .inl (σ 33 1)), (1, .inl (σ 33 0)), (0, .inr (.inr 26))] [.inl (σ 33 0), .inl (σ 33 2), .inl (σ 26 10)] σ rfl ?_
      refine sw_icmp_ge k_X8_told rfl h33_2 h33_0 60 55 (by decide) rfl (fun c10 => ?_) (fun c10 => ?_)
      · refine sw_blk k_X8_told 2 63 [(5, .inl (σ 33 1)), (4, .inl (σ 33 0)), (3, .inl (σ 33 2)), (2, .inl (σ 33 1)), (1, .inl (σ 33 0)), (0, .inr (.inr 26))] [.inl (σ 33 1), .inl (σ 33 2), .inl (σ 26 10)] σ rfl ?_
        refine sw_icmp_le k_X8_told rfl h33_2 h33_1 71 66 (by decide) rfl (fun c11 => ?_) (fun c11 => ?_)
        · refine sw_blk k_X8_told 2 73 [(5, .inl (σ 33 1)), (4, .inl (σ 33 0)), (3, .inl (σ 33 2)), (2, .inl (σ 33 1)), (1, .inl (σ 33 0)), (0, .inr (.inr 26))] [.inl ((σ 26 10) + (σ 33 2))] σ rfl ?_
          refine sw_ireturn k_X8_told rfl rfl ?_
          exact ⟨rfl, congrArg (fun q : Int => some (Sum.inl q)) (show (((σ 26 10) + (σ 33 2)) : Int) = σ 26 10 + (σ 33 0 + σ 33 1 + σ 33 2 - min (σ 33 0) (min (σ 33 1) (σ 33 2)) - max (σ 33 0) (max (σ 33 1) (σ 33 2))) from by omega)⟩
        · refine sw_blk k_X8_told 3 73 [(5, .inl (σ 33 1)), (4, .inl (σ 33 0)), (3, .inl (σ 33 2)), (2, .inl (σ 33 1)), (1, .inl (σ 33 0)), (0, .inr (.inr 26))] [.inl ((σ 26 10) + (σ 33 1))] σ rfl ?_
          refine sw_ireturn k_X8_told rfl rfl ?_
          exact ⟨rfl, congrArg (fun q : Int => some (Sum.inl q)) (show (((σ 26 10) + (σ 33 1)) : Int) = σ 26 10 + (σ 33 0 + σ 33 1 + σ 33 2 - min (σ 33 0) (min (σ 33 1) (σ 33 2)) - max (σ 33 0) (max (σ 33 1) (σ 33 2))) from by omega)⟩
      · refine sw_blk k_X8_told 3 73 [(5, .inl (σ 33 1)), (4, .inl (σ 33 0)), (3, .inl (σ 33 2)), (2, .inl (σ 33 1)), (1, .inl (σ 33 0)), (0, .inr (.inr 26))] [.inl ((σ 26 10) + (σ 33 0))] σ rfl ?_
        refine sw_ireturn k_X8_told rfl rfl ?_
        exact ⟨rfl, congrArg (fun q : Int => some (Sum.inl q)) (show (((σ 26 10) + (σ 33 0)) : Int) = σ 26 10 + (σ 33 0 + σ 33 1 + σ 33 2 - min (σ 33 0) (min (σ 33 1) (σ 33 2)) - max (σ 33 0) (max (σ 33 1) (σ 33 2))) from by omega)⟩
theorem sp_ticksLeft (σ : sw_S) (h5_9 : sw_g (σ 5 9)) : sw_Con sw_ly sw_rho M_X6_ticksLeft [.inr (.inr 5)] σ (fun r σ' => σ = σ' ∧ r = some (.inl (if σ 5 9 = 1 then σ 5 5 - σ 5 6 else 0))) := by
  refine sw_con (by decide) (Nat.le_of_ble_eq_true rfl) ?_
  refine sw_blk k_X6_ticksLeft 3 5 [(0, .inr (.inr 5))] [.inl 1, .inl (σ 5 9)] σ rfl ?_
  refine sw_icmp_ne k_X6_ticksLeft rfl h5_9 (by decide) 20 8 (by decide) rfl (fun c1 => ?_) (fun c1 => ?_)
  · refine sw_blk k_X6_ticksLeft 1 21 [(0, .inr (.inr 5))] [.inl 0] σ rfl ?_
    refine sw_ireturn k_X6_ticksLeft rfl rfl ?_
    exact ⟨rfl, congrArg (fun q : Int => some (Sum.inl q)) (show (0 : Int) = (if σ 5 9 = 1 then σ 5 5 - σ 5 6 else 0) from by omega)⟩
  · refine sw_blk k_X6_ticksLeft 6 21 [(0, .inr (.inr 5))] [.inl ((σ 5 5) - (σ 5 6))] σ rfl ?_
    refine sw_ireturn k_X6_ticksLeft rfl rfl ?_
    exact ⟨rfl, congrArg (fun q : Int => some (Sum.inl q)) (show (((σ 5 5) - (σ 5 6)) : Int) = (if σ 5 9 = 1 then σ 5 5 - σ 5 6 else 0) from by omega)⟩
theorem sp_setOut (σ : sw_S) (t : Int) (gt : sw_g t) : sw_Con sw_ly sw_rho M_X6_setOut [.inr (.inr 5), .inl t] σ (fun r σ' => (sw_u (sw_u (sw_u (sw_u σ 5 10 0) 5 5 t) 5 6 0) 5 9 (if 0 < t then 1 else 0)) = σ' ∧ r = none) := by
  refine sw_con (by decide) (Nat.le_of_ble_eq_true rfl) ?_
  refine sw_blk k_X6_setOut 11 17 [(0, .inr (.inr 5)), (1, .inl t)] [.inl t, .inr (.inr 5)] (sw_u (sw_u (sw_u σ 5 10 0) 5 5 t) 5 6 0) rfl ?_
  refine sw_if_le k_X6_setOut rfl (by omega) 24 20 (by decide) rfl (fun c1 => ?_) (fun c1 => ?_)
  · refine sw_blk k_X6_setOut 2 28 [(0, .inr (.inr 5)), (1, .inl t)] [] (sw_u (sw_u (sw_u (sw_u σ 5 10 0) 5 5 t) 5 6 0) 5 9 0) rfl ?_
    refine sw_vreturn k_X6_setOut rfl rfl ?_
    exact ⟨congrArg (sw_u (sw_u (sw_u (sw_u σ 5 10 0) 5 5 t) 5 6 0) 5 9) (show (if 0 < t then 1 else 0) = (0 : Int) from by omega), rfl⟩
  · refine sw_blk k_X6_setOut 3 28 [(0, .inr (.inr 5)), (1, .inl t)] [] (sw_u (sw_u (sw_u (sw_u σ 5 10 0) 5 5 t) 5 6 0) 5 9 1) rfl ?_
    refine sw_vreturn k_X6_setOut rfl rfl ?_
    exact ⟨congrArg (sw_u (sw_u (sw_u (sw_u σ 5 10 0) 5 5 t) 5 6 0) 5 9) (show (if 0 < t then 1 else 0) = (1 : Int) from by omega), rfl⟩
theorem sp_nextSpeed (σ : sw_S) (h0 : 0 ≤ σ 5 6) (h1 : σ 5 6 < 400) : sw_Con sw_ly sw_rho M_X6_nextSpeed [.inr (.inr 5)] σ (fun r σ' => σ = σ' ∧ r = some (.inl (σ 10 (σ 5 6).toNat))) := by
  refine sw_con (by decide) (Nat.le_of_ble_eq_true rfl) ?_
  refine sw_blk k_X6_nextSpeed 5 9 [(0, .inr (.inr 5))] [.inl 400, .inl (σ 5 6)] σ rfl ?_
  refine sw_icmp_ge k_X6_nextSpeed rfl (by omega) (by decide) 24 12 (by decide) rfl (fun c1 => ?_) (fun c1 => ?_)
  · omega
  · refine sw_blk k_X6_nextSpeed 4 20 [(0, .inr (.inr 5))] [.inl (σ 5 6), .inr (.inr 10)] σ rfl ?_
    refine sw_iald k_X6_nextSpeed rfl (i := 10) (n := 400) rfl (by decide) (by omega) (by omega) 21 rfl ?_
    refine sw_blk k_X6_nextSpeed 1 25 [(0, .inr (.inr 5))] [.inl (σ 10 ((σ 5 6).toNat))] σ rfl ?_
    refine sw_ireturn k_X6_nextSpeed rfl rfl ?_
    exact ⟨rfl, rfl⟩
theorem sp_size (σ : sw_S) (h6_1 : sw_g (σ 6 1)) : sw_Con sw_ly sw_rho M_X5_size [.inr (.inr 6)] σ (fun r σ' => σ = σ' ∧ r = some (.inl (min (σ 6 1) 40))) := by
  refine sw_con (by decide) (Nat.le_of_ble_eq_true rfl) ?_
  refine sw_blk k_X5_size 3 6 [(0, .inr (.inr 6))] [.inl 40, .inl (σ 6 1)] σ rfl ?_
  refine sw_callS k_X5_size rfl cS_J9_min_7cf53 ml_X5_19 ⟨by decide, by decide⟩ [.inl (σ 6 1), .inl 40] [] rfl rfl (Nat.le_of_ble_eq_true rfl) 9 rfl (sp_min σ (σ 6 1) 40 h6_1 (by decide)) (fun r1 σ2 hq3 => ?_)
  obtain ⟨rfl, rfl⟩ := hq3
  refine sw_blk k_X5_size 0 9 [(0, .inr (.inr 6))] [.inl (min (σ 6 1) 40)] σ rfl ?_
  refine sw_ireturn k_X5_size rfl rfl ?_
  exact ⟨rfl, rfl⟩
theorem sp_forget (σ : sw_S)  : sw_Con sw_ly sw_rho M_X1_forget [.inr (.inr 3)] σ (fun r σ' => (sw_u σ 3 2 (-1)) = σ' ∧ r = none) := by
  refine sw_con (by decide) (Nat.le_of_ble_eq_true rfl) ?_
  refine sw_blk k_X1_forget 3 5 [(0, .inr (.inr 3))] [] (sw_u σ 3 2 (-1)) rfl ?_
  refine sw_vreturn k_X1_forget rfl rfl ?_
  exact ⟨rfl, rfl⟩
theorem sp_ticksAfter (σ : sw_S) (d v : Int) (h0 : 0 ≤ (d - v) * 21 + v) (h1 : (d - v) * 21 + v < 8421) : sw_Con sw_ly sw_rho M_X1_ticksAfter [.inr (.inr 3), .inl d, .inl v] σ (fun r σ' => σ = σ' ∧ r = some (.inl (σ 4 ((d - v) * 21 + v).toNat))) := by
  refine sw_con (by decide) (Nat.le_of_ble_eq_true rfl) ?_
  refine sw_blk k_X1_ticksAfter 9 12 [(0, .inr (.inr 3)), (1, .inl d), (2, .inl v)] [.inl (((d - v) * 21) + v), .inr (.inr 4)] σ rfl ?_
  refine sw_iald k_X1_ticksAfter rfl (i := 4) (n := 8421) rfl (by decide) (by omega) (by omega) 13 rfl ?_
  refine sw_blk k_X1_ticksAfter 0 13 [(0, .inr (.inr 3)), (1, .inl d), (2, .inl v)] [.inl (σ 4 ((((d - v) * 21) + v).toNat))] σ rfl ?_
  refine sw_ireturn k_X1_ticksAfter rfl rfl ?_
  exact ⟨rfl, rfl⟩
theorem sp_finding (σ : sw_S) (k : Int) : sw_Con sw_ly sw_rho M_X7_finding [.inr (.inr 0), .inl k] σ (fun r σ' => (sw_u σ 0 9 k) = σ' ∧ r = some (.inl (-10 - k))) := by
  refine sw_con (by decide) (Nat.le_of_ble_eq_true rfl) ?_
  refine sw_blk k_X7_finding 6 9 [(0, .inr (.inr 0)), (1, .inl k)] [.inl ((-10) - k)] (sw_u σ 0 9 k) rfl ?_
  refine sw_ireturn k_X7_finding rfl rfl ?_
  exact ⟨rfl, rfl⟩
theorem sp_hasItems0 (σ : sw_S) (i k : Int) (gi : sw_g i) (gk : sw_g k) (hs0 : 0 ≤ σ 15 3) (hs1 : σ 15 3 ≤ 60) : sw_Con sw_ly sw_rho M_X4_hasItems [.inr (.inr 15), .inl i, .inl k] σ (fun r σ' => σ = σ' ∧ ((0 ≤ i ∧ 0 ≤ k ∧ i ≤ σ 15 3 - k) ∧ r = some (.inl 1) ∨ ¬ (0 ≤ i ∧ 0 ≤ k ∧ i ≤ σ 15 3 - k) ∧ r = some (.inl 0))) := by
  refine sw_con (by decide) (Nat.le_of_ble_eq_true rfl) ?_
  refine sw_blk k_X4_hasItems 1 1 [(0, .inr (.inr 15)), (1, .inl i), (2, .inl k)] [.inl i] σ rfl ?_
  refine sw_if_lt k_X4_hasItems rfl (by omega) 22 4 (by decide) rfl (fun c1 => ?_) (fun c1 => ?_)
  · refine sw_blk k_X4_hasItems 1 23 [(0, .inr (.inr 15)), (1, .inl i), (2, .inl k)] [.inl 0] σ rfl ?_
    refine sw_zreturn k_X4_hasItems rfl rfl (by decide) ?_
    exact ⟨rfl, Or.inr ⟨by omega, rfl⟩⟩
  · refine sw_blk k_X4_hasItems 1 5 [(0, .inr (.inr 15)), (1, .inl i), (2, .inl k)] [.inl k] σ rfl ?_
    refine sw_if_lt k_X4_hasItems rfl (by omega) 22 8 (by decide) rfl (fun c2 => ?_) (fun c2 => ?_)
    · refine sw_blk k_X4_hasItems 1 23 [(0, .inr (.inr 15)), (1, .inl i), (2, .inl k)] [.inl 0] σ rfl ?_
      refine sw_zreturn k_X4_hasItems rfl rfl (by decide) ?_
      exact ⟨rfl, Or.inr ⟨by omega, rfl⟩⟩
    · refine sw_blk k_X4_hasItems 5 15 [(0, .inr (.inr 15)), (1, .inl i), (2, .inl k)] [.inl ((σ 15 3) - k), .inl i] σ rfl ?_
      refine sw_icmp_gt k_X4_hasItems rfl (by omega) (by omega) 22 18 (by decide) rfl (fun c3 => ?_) (fun c3 => ?_)
      · refine sw_blk k_X4_hasItems 1 23 [(0, .inr (.inr 15)), (1, .inl i), (2, .inl k)] [.inl 0] σ rfl ?_
        refine sw_zreturn k_X4_hasItems rfl rfl (by decide) ?_
        exact ⟨rfl, Or.inr ⟨by omega, rfl⟩⟩
      · refine sw_blk k_X4_hasItems 2 23 [(0, .inr (.inr 15)), (1, .inl i), (2, .inl k)] [.inl 1] σ rfl ?_
        refine sw_zreturn k_X4_hasItems rfl rfl (by decide) ?_
        exact ⟨rfl, Or.inl ⟨by omega, rfl⟩⟩
theorem sp_hasItems1 (σ : sw_S) (i k : Int) (gi : sw_g i) (gk : sw_g k) (hs0 : 0 ≤ σ 17 3) (hs1 : σ 17 3 ≤ 60) : sw_Con sw_ly sw_rho M_X4_hasItems [.inr (.inr 17), .inl i, .inl k] σ (fun r σ' => σ = σ' ∧ ((0 ≤ i ∧ 0 ≤ k ∧ i ≤ σ 17 3 - k) ∧ r = some (.inl 1) ∨ ¬ (0 ≤ i ∧ 0 ≤ k ∧ i ≤ σ 17 3 - k) ∧ r = some (.inl 0))) := by
  refine sw_con (by decide) (Nat.le_of_ble_eq_true rfl) ?_
  refine sw_blk k_X4_hasItems 1 1 [(0, .inr (.inr 17)), (1, .inl i), (2, .inl k)] [.inl i] σ rfl ?_
  refine sw_if_lt k_X4_hasItems rfl (by omega) 22 4 (by decide) rfl (fun c1 => ?_) (fun c1 => ?_)
  · refine sw_blk k_X4_hasItems 1 23 [(0, .inr (.inr 17)), (1, .inl i), (2, .inl k)] [.inl 0] σ rfl ?_
    refine sw_zreturn k_X4_hasItems rfl rfl (by decide) ?_
    exact ⟨rfl, Or.inr ⟨by omega, rfl⟩⟩
  · refine sw_blk k_X4_hasItems 1 5 [(0, .inr (.inr 17)), (1, .inl i), (2, .inl k)] [.inl k] σ rfl ?_
    refine sw_if_lt k_X4_hasItems rfl (by omega) 22 8 (by decide) rfl (fun c2 => ?_) (fun c2 => ?_)
    · refine sw_blk k_X4_hasItems 1 23 [(0, .inr (.inr 17)), (1, .inl i), (2, .inl k)] [.inl 0] σ rfl ?_
      refine sw_zreturn k_X4_hasItems rfl rfl (by decide) ?_
      exact ⟨rfl, Or.inr ⟨by omega, rfl⟩⟩
    · refine sw_blk k_X4_hasItems 5 15 [(0, .inr (.inr 17)), (1, .inl i), (2, .inl k)] [.inl ((σ 17 3) - k), .inl i] σ rfl ?_
      refine sw_icmp_gt k_X4_hasItems rfl (by omega) (by omega) 22 18 (by decide) rfl (fun c3 => ?_) (fun c3 => ?_)
      · refine sw_blk k_X4_hasItems 1 23 [(0, .inr (.inr 17)), (1, .inl i), (2, .inl k)] [.inl 0] σ rfl ?_
        refine sw_zreturn k_X4_hasItems rfl rfl (by decide) ?_
        exact ⟨rfl, Or.inr ⟨by omega, rfl⟩⟩
      · refine sw_blk k_X4_hasItems 2 23 [(0, .inr (.inr 17)), (1, .inl i), (2, .inl k)] [.inl 1] σ rfl ?_
        refine sw_zreturn k_X4_hasItems rfl rfl (by decide) ?_
        exact ⟨rfl, Or.inl ⟨by omega, rfl⟩⟩
theorem sp_hasItems2 (σ : sw_S) (i k : Int) (gi : sw_g i) (gk : sw_g k) (hs0 : 0 ≤ σ 19 3) (hs1 : σ 19 3 ≤ 60) : sw_Con sw_ly sw_rho M_X4_hasItems [.inr (.inr 19), .inl i, .inl k] σ (fun r σ' => σ = σ' ∧ ((0 ≤ i ∧ 0 ≤ k ∧ i ≤ σ 19 3 - k) ∧ r = some (.inl 1) ∨ ¬ (0 ≤ i ∧ 0 ≤ k ∧ i ≤ σ 19 3 - k) ∧ r = some (.inl 0))) := by
  refine sw_con (by decide) (Nat.le_of_ble_eq_true rfl) ?_
  refine sw_blk k_X4_hasItems 1 1 [(0, .inr (.inr 19)), (1, .inl i), (2, .inl k)] [.inl i] σ rfl ?_
  refine sw_if_lt k_X4_hasItems rfl (by omega) 22 4 (by decide) rfl (fun c1 => ?_) (fun c1 => ?_)
  · refine sw_blk k_X4_hasItems 1 23 [(0, .inr (.inr 19)), (1, .inl i), (2, .inl k)] [.inl 0] σ rfl ?_
    refine sw_zreturn k_X4_hasItems rfl rfl (by decide) ?_
    exact ⟨rfl, Or.inr ⟨by omega, rfl⟩⟩
  · refine sw_blk k_X4_hasItems 1 5 [(0, .inr (.inr 19)), (1, .inl i), (2, .inl k)] [.inl k] σ rfl ?_
    refine sw_if_lt k_X4_hasItems rfl (by omega) 22 8 (by decide) rfl (fun c2 => ?_) (fun c2 => ?_)
    · refine sw_blk k_X4_hasItems 1 23 [(0, .inr (.inr 19)), (1, .inl i), (2, .inl k)] [.inl 0] σ rfl ?_
      refine sw_zreturn k_X4_hasItems rfl rfl (by decide) ?_
      exact ⟨rfl, Or.inr ⟨by omega, rfl⟩⟩
    · refine sw_blk k_X4_hasItems 5 15 [(0, .inr (.inr 19)), (1, .inl i), (2, .inl k)] [.inl ((σ 19 3) - k), .inl i] σ rfl ?_
      refine sw_icmp_gt k_X4_hasItems rfl (by omega) (by omega) 22 18 (by decide) rfl (fun c3 => ?_) (fun c3 => ?_)
      · refine sw_blk k_X4_hasItems 1 23 [(0, .inr (.inr 19)), (1, .inl i), (2, .inl k)] [.inl 0] σ rfl ?_
        refine sw_zreturn k_X4_hasItems rfl rfl (by decide) ?_
        exact ⟨rfl, Or.inr ⟨by omega, rfl⟩⟩
      · refine sw_blk k_X4_hasItems 2 23 [(0, .inr (.inr 19)), (1, .inl i), (2, .inl k)] [.inl 1] σ rfl ?_
        refine sw_zreturn k_X4_hasItems rfl rfl (by decide) ?_
        exact ⟨rfl, Or.inl ⟨by omega, rfl⟩⟩
theorem sp_hasItems3 (σ : sw_S) (i k : Int) (gi : sw_g i) (gk : sw_g k) (hs0 : 0 ≤ σ 21 3) (hs1 : σ 21 3 ≤ 60) : sw_Con sw_ly sw_rho M_X4_hasItems [.inr (.inr 21), .inl i, .inl k] σ (fun r σ' => σ = σ' ∧ ((0 ≤ i ∧ 0 ≤ k ∧ i ≤ σ 21 3 - k) ∧ r = some (.inl 1) ∨ ¬ (0 ≤ i ∧ 0 ≤ k ∧ i ≤ σ 21 3 - k) ∧ r = some (.inl 0))) := by
  refine sw_con (by decide) (Nat.le_of_ble_eq_true rfl) ?_
  refine sw_blk k_X4_hasItems 1 1 [(0, .inr (.inr 21)), (1, .inl i), (2, .inl k)] [.inl i] σ rfl ?_
  refine sw_if_lt k_X4_hasItems rfl (by omega) 22 4 (by decide) rfl (fun c1 => ?_) (fun c1 => ?_)
  · refine sw_blk k_X4_hasItems 1 23 [(0, .inr (.inr 21)), (1, .inl i), (2, .inl k)] [.inl 0] σ rfl ?_
    refine sw_zreturn k_X4_hasItems rfl rfl (by decide) ?_
    exact ⟨rfl, Or.inr ⟨by omega, rfl⟩⟩
  · refine sw_blk k_X4_hasItems 1 5 [(0, .inr (.inr 21)), (1, .inl i), (2, .inl k)] [.inl k] σ rfl ?_
    refine sw_if_lt k_X4_hasItems rfl (by omega) 22 8 (by decide) rfl (fun c2 => ?_) (fun c2 => ?_)
    · refine sw_blk k_X4_hasItems 1 23 [(0, .inr (.inr 21)), (1, .inl i), (2, .inl k)] [.inl 0] σ rfl ?_
      refine sw_zreturn k_X4_hasItems rfl rfl (by decide) ?_
      exact ⟨rfl, Or.inr ⟨by omega, rfl⟩⟩
    · refine sw_blk k_X4_hasItems 5 15 [(0, .inr (.inr 21)), (1, .inl i), (2, .inl k)] [.inl ((σ 21 3) - k), .inl i] σ rfl ?_
      refine sw_icmp_gt k_X4_hasItems rfl (by omega) (by omega) 22 18 (by decide) rfl (fun c3 => ?_) (fun c3 => ?_)
      · refine sw_blk k_X4_hasItems 1 23 [(0, .inr (.inr 21)), (1, .inl i), (2, .inl k)] [.inl 0] σ rfl ?_
        refine sw_zreturn k_X4_hasItems rfl rfl (by decide) ?_
        exact ⟨rfl, Or.inr ⟨by omega, rfl⟩⟩
      · refine sw_blk k_X4_hasItems 2 23 [(0, .inr (.inr 21)), (1, .inl i), (2, .inl k)] [.inl 1] σ rfl ?_
        refine sw_zreturn k_X4_hasItems rfl rfl (by decide) ?_
        exact ⟨rfl, Or.inl ⟨by omega, rfl⟩⟩
theorem sp_note (σ : sw_S) (p v h : Int) (h0 : 0 ≤ σ 6 1) (h1 : σ 6 1 < 1000000) : sw_Con sw_ly sw_rho M_X5_note [.inr (.inr 6), .inl p, .inl v, .inl h] σ (fun r σ' => (sw_u (sw_u (sw_u (sw_u σ 7 (σ 6 1 % 40 * 3).toNat p) 7 (σ 6 1 % 40 * 3 + 1).toNat v) 7 (σ 6 1 % 40 * 3 + 2).toNat h) 6 1 (σ 6 1 + 1)) = σ' ∧ r = none) := by
  refine sw_con (by decide) (Nat.le_of_ble_eq_true rfl) ?_
  refine sw_blk k_X5_note 3 6 [(0, .inr (.inr 6)), (1, .inl p), (2, .inl v), (3, .inl h)] [.inl 40, .inl (σ 6 1)] σ rfl ?_
  refine sw_callS k_X5_note rfl cS_J9_floorMod_7cf53 ml_X5_25 ⟨by decide, by decide⟩ [.inl (σ 6 1), .inl 40] [] rfl rfl (Nat.le_of_ble_eq_true rfl) 9 rfl (sp_floorMod σ (σ 6 1) 40 (by omega) (by decide) (by omega) (by decide)) (fun r1 σ2 hq3 => ?_)
  obtain ⟨rfl, rfl⟩ := hq3
  refine sw_blk k_X5_note 7 20 [(4, .inl (((σ 6 1) % 40) * 3)), (0, .inr (.inr 6)), (1, .inl p), (2, .inl v), (3, .inl h)] [.inl p, .inl (((σ 6 1) % 40) * 3), .inr (.inr 7)] σ rfl ?_
  refine sw_iast k_X5_note rfl (i := 7) (n := 120) rfl (by decide) (by omega) (by omega) 21 rfl ?_
  refine sw_blk k_X5_note 6 30 [(4, .inl (((σ 6 1) % 40) * 3)), (0, .inr (.inr 6)), (1, .inl p), (2, .inl v), (3, .inl h)] [.inl v, .inl ((((σ 6 1) % 40) * 3) + 1), .inr (.inr 7)] (sw_u σ 7 ((((σ 6 1) % 40) * 3).toNat) p) rfl ?_
  refine sw_iast k_X5_note rfl (i := 7) (n := 120) rfl (by decide) (by omega) (by omega) 31 rfl ?_
  refine sw_blk k_X5_note 6 40 [(4, .inl (((σ 6 1) % 40) * 3)), (0, .inr (.inr 6)), (1, .inl p), (2, .inl v), (3, .inl h)] [.inl h, .inl ((((σ 6 1) % 40) * 3) + 2), .inr (.inr 7)] (sw_u (sw_u σ 7 ((((σ 6 1) % 40) * 3).toNat) p) 7 (((((σ 6 1) % 40) * 3) + 1).toNat) v) rfl ?_
  refine sw_iast k_X5_note rfl (i := 7) (n := 120) rfl (by decide) (by omega) (by omega) 41 rfl ?_
  refine sw_blk k_X5_note 6 51 [(4, .inl (((σ 6 1) % 40) * 3)), (0, .inr (.inr 6)), (1, .inl p), (2, .inl v), (3, .inl h)] [] (sw_u (sw_u (sw_u (sw_u σ 7 ((((σ 6 1) % 40) * 3).toNat) p) 7 (((((σ 6 1) % 40) * 3) + 1).toNat) v) 7 (((((σ 6 1) % 40) * 3) + 2).toNat) h) 6 1 ((σ 6 1) + 1)) rfl ?_
  refine sw_vreturn k_X5_note rfl rfl ?_
  exact ⟨rfl, rfl⟩
theorem sp_latest (σ : sw_S) (i w : Int) (gi : 0 ≤ i ∧ i < 40) (gw : 0 ≤ w ∧ w ≤ 2) (h0 : i < σ 6 1) (h1 : σ 6 1 < 1000000) : sw_Con sw_ly sw_rho M_X5_latest [.inr (.inr 6), .inl i, .inl w] σ (fun r σ' => σ = σ' ∧ r = some (.inl (σ 7 ((σ 6 1 - 1 - i) % 40 * 3 + w).toNat))) := by
  refine sw_con (by decide) (Nat.le_of_ble_eq_true rfl) ?_
  refine sw_blk k_X5_latest 9 14 [(0, .inr (.inr 6)), (1, .inl i), (2, .inl w)] [.inl 40, .inl (((σ 6 1) - 1) - i), .inr (.inr 7)] σ rfl ?_
  refine sw_callS k_X5_latest rfl cS_J9_floorMod_7cf53 ml_X5_25 ⟨by decide, by decide⟩ [.inl (((σ 6 1) - 1) - i), .inl 40] [.inr (.inr 7)] rfl rfl (Nat.le_of_ble_eq_true rfl) 17 rfl (sp_floorMod σ (((σ 6 1) - 1) - i) 40 (by omega) (by decide) (by omega) (by decide)) (fun r1 σ2 hq3 => ?_)
  obtain ⟨rfl, rfl⟩ := hq3
  refine sw_blk k_X5_latest 4 21 [(0, .inr (.inr 6)), (1, .inl i), (2, .inl w)] [.inl ((((((σ 6 1) - 1) - i) % 40) * 3) + w), .inr (.inr 7)] σ rfl ?_
  refine sw_iald k_X5_latest rfl (i := 7) (n := 120) rfl (by decide) (by omega) (by omega) 22 rfl ?_
  refine sw_blk k_X5_latest 0 22 [(0, .inr (.inr 6)), (1, .inl i), (2, .inl w)] [.inl (σ 7 (((((((σ 6 1) - 1) - i) % 40) * 3) + w).toNat))] σ rfl ?_
  refine sw_ireturn k_X5_latest rfl rfl ?_
  exact ⟨rfl, rfl⟩
