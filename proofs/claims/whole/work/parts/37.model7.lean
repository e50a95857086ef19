theorem mm_ticks (σ : sw_S) (hσ : sw_gs σ) (hz : 0 ≤ σ 26 3 ∧ σ 26 3 ≤ 6) (hD : 10 ≤ σ 26 0 ∧ σ 26 0 ≤ 400) (hV : 1 ≤ σ 26 1 ∧ σ 26 1 ≤ 20) (hA : 1 ≤ σ 26 2 ∧ σ 26 2 ≤ 5) (lim : Nat → Int) (hl : ∀ j : Nat, (j : Int) ≤ σ 26 0 → lim j = sw_lm σ j) (hL : ∀ x : Int, 0 ≤ x → x ≤ σ 26 0 → 1 ≤ lim x.toNat) (hpl : 0 ≤ σ 26 10 ∧ σ 26 10 ≤ σ 26 0) (q : Int) (gq : sw_g q) : sw_Con sw_ly sw_rho M_X8_ticks [.inr (.inr 26), .inl q] σ (fun r σ' => (¬ (0 ≤ q ∧ q ≤ σ 26 0) ∧ r = some (.inl (-2)) ∧ σ = σ') ∨ (((0 ≤ q ∧ q ≤ σ 26 0) ∧ ¬ σ 26 12 = 0) ∧ r = some (.inl (-4)) ∧ σ = σ') ∨ (((0 ≤ q ∧ q ≤ σ 26 0) ∧ σ 26 12 = 0) ∧ (∀ i j, i ≠ 35 → i ≠ 36 → i ≠ 37 → i ≠ 38 → σ' i j = σ i j) ∧ sw_gs σ' ∧ ∃ n : Nat, r = some (.inl (n : Int)) ∧ sw_isr lim (σ 26 0) (σ 26 1) (σ 26 2) (σ 26 10) q n (σ' 38))) := by
  refine sw_con (by decide) (Nat.le_of_ble_eq_true rfl) ?_
  refine sw_blk k_X8_ticks 2 2 [(0, .inr (.inr 26)), (1, .inl q)] [.inl q, .inr (.inr 26)] σ rfl ?_
  refine sw_callV k_X8_ticks rfl cV_X8_isPlace ml_X8_103 ⟨by decide, by decide⟩ 26 rfl rfl [.inl q] [] rfl rfl (Nat.le_of_ble_eq_true rfl) 5 rfl (sp_mPlace σ q (by omega) (hσ 26 0)) (fun r2 σ3 hq4 => ?_)
  obtain ⟨rfl, ⟨p1, rfl⟩ | ⟨p1, rfl⟩⟩ := hq4
  · have p1 : 0 ≤ q ∧ q ≤ (σ 26 0) := p1
    refine sw_blk k_X8_ticks 0 5 [(0, .inr (.inr 26)), (1, .inl q)] [.inl 1] σ rfl ?_
    refine sw_if_ne k_X8_ticks rfl (by decide) 11 8 (by decide) rfl (fun _ => ?_) (fun c => absurd c (by decide))
    refine sw_blk k_X8_ticks 2 15 [(0, .inr (.inr 26)), (1, .inl q)] [.inl (σ 26 12)] σ rfl ?_
    refine sw_if_ne k_X8_ticks rfl (hσ 26 _) 30 18 (by decide) rfl (fun c5 => ?_) (fun c5 => ?_)
    · refine sw_blk k_X8_ticks 1 32 [(0, .inr (.inr 26)), (1, .inl q)] [.inl (-4)] σ rfl ?_
      refine sw_ireturn k_X8_ticks rfl rfl ?_
      exact Or.inr (Or.inl ⟨by omega, rfl, rfl⟩)
    · refine sw_blk k_X8_ticks 4 24 [(0, .inr (.inr 26)), (1, .inl q)] [.inl q, .inl (σ 26 10), .inr (.inr 26)] σ rfl ?_
      refine sw_callV k_X8_ticks rfl cV_X8_plans ml_X8_125 ⟨by decide, by decide⟩ 26 rfl rfl [.inl (σ 26 10), .inl q] [] rfl rfl (Nat.le_of_ble_eq_true rfl) 27 rfl (sp_plans σ hσ hz hD hV hA lim hl hL (σ 26 10) q (by omega) (by omega)) (fun r6 σ7 hq8 => ?_)
      obtain ⟨fk, hg, nn, rfl, n1, n2, n3, n4⟩ := hq8
      have hisr : sw_isr lim (σ 26 0) (σ 26 1) (σ 26 2) (σ 26 10) q nn _ := ⟨⟨n1, n2, n3⟩, n4⟩
      refine sw_blk k_X8_ticks 1 32 [(0, .inr (.inr 26)), (1, .inl q)] [.inl (nn : Int)] σ7 rfl ?_
      refine sw_ireturn k_X8_ticks rfl rfl ?_
      exact Or.inr (Or.inr ⟨by omega, fk, hg, nn, rfl, hisr⟩)
  · have p1 : ¬ (0 ≤ q ∧ q ≤ (σ 26 0)) := p1
    refine sw_blk k_X8_ticks 0 5 [(0, .inr (.inr 26)), (1, .inl q)] [.inl 0] σ rfl ?_
    refine sw_if_ne k_X8_ticks rfl (by decide) 11 8 (by decide) rfl (fun c => absurd (by decide) c) (fun _ => ?_)
    refine sw_blk k_X8_ticks 1 10 [(0, .inr (.inr 26)), (1, .inl q)] [.inl (-2)] σ rfl ?_
    refine sw_ireturn k_X8_ticks rfl rfl ?_
    exact Or.inl ⟨by omega, rfl, rfl⟩
theorem mm_speed (σ : sw_S) (hσ : sw_gs σ) (hz : 0 ≤ σ 26 3 ∧ σ 26 3 ≤ 6) (hD : 10 ≤ σ 26 0 ∧ σ 26 0 ≤ 400) (hV : 1 ≤ σ 26 1 ∧ σ 26 1 ≤ 20) (hA : 1 ≤ σ 26 2 ∧ σ 26 2 ≤ 5) (lim : Nat → Int) (hl : ∀ j : Nat, (j : Int) ≤ σ 26 0 → lim j = sw_lm σ j) (hL : ∀ x : Int, 0 ≤ x → x ≤ σ 26 0 → 1 ≤ lim x.toNat) (hpl : 0 ≤ σ 26 10 ∧ σ 26 10 ≤ σ 26 0) (q t : Int) (gq : sw_g q) (gt : sw_g t) : sw_Con sw_ly sw_rho M_X8_speed [.inr (.inr 26), .inl q, .inl t] σ (fun r σ' => (¬ (0 ≤ q ∧ q ≤ σ 26 0) ∧ r = some (.inl (-2000)) ∧ σ = σ') ∨ (((0 ≤ q ∧ q ≤ σ 26 0) ∧ ¬ σ 26 12 = 0) ∧ r = some (.inl (-3000)) ∧ σ = σ') ∨ (((0 ≤ q ∧ q ≤ σ 26 0) ∧ σ 26 12 = 0) ∧ (∀ i j, i ≠ 35 → i ≠ 36 → i ≠ 37 → i ≠ 38 → σ' i j = σ i j) ∧ sw_gs σ' ∧ ∃ n : Nat, r = some (.inl (if 1 ≤ t ∧ t ≤ (n : Int) then σ' 38 (t - 1).toNat else -1000)) ∧ sw_isr lim (σ 26 0) (σ 26 1) (σ 26 2) (σ 26 10) q n (σ' 38))) := by
  refine sw_con (by decide) (Nat.le_of_ble_eq_true rfl) ?_
  refine sw_blk k_X8_speed 2 2 [(0, .inr (.inr 26)), (1, .inl q), (2, .inl t)] [.inl q, .inr (.inr 26)] σ rfl ?_
  refine sw_callV k_X8_speed rfl cV_X8_isPlace ml_X8_103 ⟨by decide, by decide⟩ 26 rfl rfl [.inl q] [] rfl rfl (Nat.le_of_ble_eq_true rfl) 5 rfl (sp_mPlace σ q (by omega) (hσ 26 0)) (fun r2 σ3 hq4 => ?_)
  obtain ⟨rfl, ⟨p1, rfl⟩ | ⟨p1, rfl⟩⟩ := hq4
  · have p1 : 0 ≤ q ∧ q ≤ (σ 26 0) := p1
    refine sw_blk k_X8_speed 0 5 [(0, .inr (.inr 26)), (1, .inl q), (2, .inl t)] [.inl 1] σ rfl ?_
    refine sw_if_ne k_X8_speed rfl (by decide) 12 8 (by decide) rfl (fun _ => ?_) (fun c => absurd c (by decide))
    refine sw_blk k_X8_speed 2 16 [(0, .inr (.inr 26)), (1, .inl q), (2, .inl t)] [.inl (σ 26 12)] σ rfl ?_
    refine sw_if_eq k_X8_speed rfl (hσ 26 _) 23 19 (by decide) rfl (fun c5 => ?_) (fun c5 => ?_)
    · refine sw_blk k_X8_speed 4 29 [(0, .inr (.inr 26)), (1, .inl q), (2, .inl t)] [.inl q, .inl (σ 26 10), .inr (.inr 26)] σ rfl ?_
      refine sw_callV k_X8_speed rfl cV_X8_plans ml_X8_125 ⟨by decide, by decide⟩ 26 rfl rfl [.inl (σ 26 10), .inl q] [] rfl rfl (Nat.le_of_ble_eq_true rfl) 32 rfl (sp_plans σ hσ hz hD hV hA lim hl hL (σ 26 10) q (by omega) (by omega)) (fun r6 σ7 hq8 => ?_)
      obtain ⟨fk, hg, nn, rfl, n1, n2, n3, n4⟩ := hq8
      have hisr : sw_isr lim (σ 26 0) (σ 26 1) (σ 26 2) (σ 26 10) q nn _ := ⟨⟨n1, n2, n3⟩, n4⟩
      refine sw_blk k_X8_speed 4 36 [(3, .inl (nn : Int)), (0, .inr (.inr 26)), (1, .inl q), (2, .inl t)] [.inl (nn : Int), .inl 1, .inl t] σ7 rfl ?_
      refine sw_callS k_X8_speed rfl cS_X8_in ml_X8_87 ⟨by decide, by decide⟩ [.inl t, .inl 1, .inl (nn : Int)] [] rfl rfl (Nat.le_of_ble_eq_true rfl) 39 rfl (sp_in σ7 t 1 (nn : Int) (by omega) (by decide) (by omega)) (fun r10 σ11 hq12 => ?_)
      obtain ⟨rfl, ⟨p9, rfl⟩ | ⟨p9, rfl⟩⟩ := hq12
      · refine sw_blk k_X8_speed 0 39 [(3, .inl (nn : Int)), (0, .inr (.inr 26)), (1, .inl q), (2, .inl t)] [.inl 1] σ7 rfl ?_
        refine sw_if_eq k_X8_speed rfl (by decide) 53 42 (by decide) rfl (fun c => absurd c (by decide)) (fun _ => ?_)
        refine sw_blk k_X8_speed 5 49 [(3, .inl (nn : Int)), (0, .inr (.inr 26)), (1, .inl q), (2, .inl t)] [.inl (t - 1), .inr (.inr 38)] σ7 rfl ?_
        refine sw_iald k_X8_speed rfl (i := 38) (n := 600) rfl (by decide) (by omega) (by omega) 50 rfl ?_
        refine sw_blk k_X8_speed 1 56 [(3, .inl (nn : Int)), (0, .inr (.inr 26)), (1, .inl q), (2, .inl t)] [.inl (σ7 38 ((t - 1).toNat))] σ7 rfl ?_
        refine sw_ireturn k_X8_speed rfl rfl ?_
        refine Or.inr (Or.inr ⟨by omega, fk, hg, nn, ?_, hisr⟩)
        exact congrArg (fun z : Int => some (Sum.inl z)) (by first | (rw [if_pos (by omega)]; done) | (rw [if_neg (by omega)]; done))
      · refine sw_blk k_X8_speed 0 39 [(3, .inl (nn : Int)), (0, .inr (.inr 26)), (1, .inl q), (2, .inl t)] [.inl 0] σ7 rfl ?_
        refine sw_if_eq k_X8_speed rfl (by decide) 53 42 (by decide) rfl (fun _ => ?_) (fun c => absurd (by decide) c)
        refine sw_blk k_X8_speed 1 56 [(3, .inl (nn : Int)), (0, .inr (.inr 26)), (1, .inl q), (2, .inl t)] [.inl (-1000)] σ7 rfl ?_
        refine sw_ireturn k_X8_speed rfl rfl ?_
        refine Or.inr (Or.inr ⟨by omega, fk, hg, nn, ?_, hisr⟩)
        exact congrArg (fun z : Int => some (Sum.inl z)) (by first | (rw [if_pos (by omega)]; done) | (rw [if_neg (by omega)]; done))
    · refine sw_blk k_X8_speed 1 22 [(0, .inr (.inr 26)), (1, .inl q), (2, .inl t)] [.inl (-3000)] σ rfl ?_
      refine sw_ireturn k_X8_speed rfl rfl ?_
      exact Or.inr (Or.inl ⟨by omega, rfl, rfl⟩)
  · have p1 : ¬ (0 ≤ q ∧ q ≤ (σ 26 0)) := p1
    refine sw_blk k_X8_speed 0 5 [(0, .inr (.inr 26)), (1, .inl q), (2, .inl t)] [.inl 0] σ rfl ?_
    refine sw_if_ne k_X8_speed rfl (by decide) 12 8 (by decide) rfl (fun c => absurd (by decide) c) (fun _ => ?_)
    refine sw_blk k_X8_speed 1 11 [(0, .inr (.inr 26)), (1, .inl q), (2, .inl t)] [.inl (-2000)] σ rfl ?_
    refine sw_ireturn k_X8_speed rfl rfl ?_
    exact Or.inl ⟨by omega, rfl, rfl⟩
theorem lp_mbegin (σ : sw_S) (hσ : sw_gs σ) (m : Nat) (em : σ 26 22 = (m : Int)) (hm : m ≤ 400) (s : Int) (Q : Option sw_Vl → sw_S → Prop) (hQ : Q (some (.inl (m : Int))) (sw_u (sw_pf σ 34 (σ 38) m) 26 12 (if 0 < (m : Int) then 1 else 0))) : ∀ (n : Nat) (k : Nat), k ≤ m → 401 - k < n → sw_E sw_ly sw_rho M_X8_begin 77 [(2, .inl (k : Int)), (0, .inr (.inr 26)), (1, .inl s)] [] (sw_pf σ 34 (σ 38) k) Q := by
  intro n
  induction n with
  | zero =>
    intro k hk hn
    omega
  | succ n ih =>
    intro k hk hn
    refine sw_blk k_X8_begin 3 82 [(2, .inl (k : Int)), (0, .inr (.inr 26)), (1, .inl s)] [.inl ((sw_pf σ 34 (σ 38) k) 26 22), .inl (k : Int)] (sw_pf σ 34 (σ 38) k) rfl ?_
    refine sw_icmp_ge k_X8_begin rfl (by omega) (show sw_g (σ 26 22) from hσ 26 22) 103 85 (by decide) rfl (fun c1 => ?_) (fun c1 => ?_)
    · have c1 : σ 26 22 ≤ (k : Int) := c1
      refine sw_blk k_X8_begin 3 108 [(2, .inl (k : Int)), (0, .inr (.inr 26)), (1, .inl s)] [.inl ((sw_pf σ 34 (σ 38) k) 26 22), .inr (.inr 26)] (sw_pf σ 34 (σ 38) k) rfl ?_
      refine sw_if_le k_X8_begin rfl (show sw_g (σ 26 22) from hσ 26 22) 115 111 (by decide) rfl (fun c2 => ?_) (fun c2 => ?_)
      · have c2 : σ 26 22 ≤ 0 := c2
        refine sw_blk k_X8_begin 4 123 [(2, .inl (k : Int)), (0, .inr (.inr 26)), (1, .inl s)] [.inl ((sw_pf σ 34 (σ 38) k) 26 22)] (sw_u (sw_pf σ 34 (σ 38) k) 26 12 0) rfl ?_
        refine sw_ireturn k_X8_begin rfl rfl ?_
        have e : k = m := by omega
        subst e
        rw [if_neg (by omega), ← em] at hQ
        exact hQ
      · have c2 : ¬ σ 26 22 ≤ 0 := c2
        refine sw_blk k_X8_begin 5 123 [(2, .inl (k : Int)), (0, .inr (.inr 26)), (1, .inl s)] [.inl ((sw_pf σ 34 (σ 38) k) 26 22)] (sw_u (sw_pf σ 34 (σ 38) k) 26 12 1) rfl ?_
        refine sw_ireturn k_X8_begin rfl rfl ?_
        have e : k = m := by omega
        subst e
        rw [if_pos (by omega), ← em] at hQ
        exact hQ
    · have c1 : ¬ σ 26 22 ≤ (k : Int) := c1
      refine sw_blk k_X8_begin 6 95 [(2, .inl (k : Int)), (0, .inr (.inr 26)), (1, .inl s)] [.inl (k : Int), .inr (.inr 38), .inl (k : Int), .inr (.inr 34)] (sw_pf σ 34 (σ 38) k) rfl ?_
      refine sw_iald k_X8_begin rfl (i := 38) (n := 600) rfl (by decide) (by omega) (by omega) 96 rfl ?_
      refine sw_blk k_X8_begin 0 96 [(2, .inl (k : Int)), (0, .inr (.inr 26)), (1, .inl s)] [.inl ((sw_pf σ 34 (σ 38) k) 38 k), .inl (k : Int), .inr (.inr 34)] (sw_pf σ 34 (σ 38) k) rfl ?_
      refine sw_iast k_X8_begin rfl (i := 34) (n := 600) rfl (by decide) (by omega) (by omega) 97 rfl ?_
      refine sw_blk k_X8_begin 2 77 [(2, .inl ((k : Int) + 1)), (0, .inr (.inr 26)), (1, .inl s)] [] (sw_u (sw_pf σ 34 (σ 38) k) 34 k ((sw_pf σ 34 (σ 38) k) 38 k)) rfl ?_
      rw [sw_pf_s σ 34 (σ 38) k (by rw [sw_pf_row σ _ _ (by decide)])]
      exact ih (k + 1) (by omega) (by omega)
theorem mm_begin (σ : sw_S) (hσ : sw_gs σ) (hz : 0 ≤ σ 26 3 ∧ σ 26 3 ≤ 6) (hD : 10 ≤ σ 26 0 ∧ σ 26 0 ≤ 400) (hV : 1 ≤ σ 26 1 ∧ σ 26 1 ≤ 20) (hA : 1 ≤ σ 26 2 ∧ σ 26 2 ≤ 5) (lim : Nat → Int) (hl : ∀ j : Nat, (j : Int) ≤ σ 26 0 → lim j = sw_lm σ j) (hL : ∀ x : Int, 0 ≤ x → x ≤ σ 26 0 → 1 ≤ lim x.toNat) (hpl : 0 ≤ σ 26 10 ∧ σ 26 10 ≤ σ 26 0) (hst : 0 ≤ σ 26 7 ∧ σ 26 7 ≤ 6) (hsp : ∀ j : Nat, (j : Int) < σ 26 7 → 0 ≤ σ 30 j ∧ σ 30 j ≤ σ 26 0) (s : Int) (gs : sw_g s) : sw_Con sw_ly sw_rho M_X8_begin [.inr (.inr 26), .inl s] σ (fun r σ' => (¬ (0 ≤ s ∧ s ≤ σ 26 7 - 1) ∧ r = some (.inl (-2)) ∧ σ = σ') ∨ (((0 ≤ s ∧ s ≤ σ 26 7 - 1) ∧ ¬ (σ 26 12 = 0 ∧ sw_cnt (σ 32) 8 = 0 ∧ σ 26 13 = σ 31 s.toNat)) ∧ r = some (.inl (-4)) ∧ σ = σ') ∨ (((0 ≤ s ∧ s ≤ σ 26 7 - 1) ∧ (σ 26 12 = 0 ∧ sw_cnt (σ 32) 8 = 0 ∧ σ 26 13 = σ 31 s.toNat)) ∧ ∃ (n : Nat) (τ : sw_S), r = some (.inl (n : Int)) ∧ (∀ i j, i ≠ 35 → i ≠ 36 → i ≠ 37 → i ≠ 38 → τ i j = (sw_u σ 26 13 0) i j) ∧ sw_gs τ ∧ sw_isr lim (σ 26 0) (σ 26 1) (σ 26 2) (σ 26 10) (σ 30 s.toNat) n (τ 38) ∧ sw_u (sw_pf (sw_u (sw_u τ 26 22 (n : Int)) 26 23 0) 34 (τ 38) n) 26 12 (if 0 < (n : Int) then 1 else 0) = σ')) := by
  refine sw_con (by decide) (Nat.le_of_ble_eq_true rfl) ?_
  refine sw_blk k_X8_begin 6 8 [(0, .inr (.inr 26)), (1, .inl s)] [.inl ((σ 26 7) - 1), .inl 0, .inl s] σ rfl ?_
  refine sw_callS k_X8_begin rfl cS_X8_in ml_X8_87 ⟨by decide, by decide⟩ [.inl s, .inl 0, .inl ((σ 26 7) - 1)] [] rfl rfl (Nat.le_of_ble_eq_true rfl) 11 rfl (sp_in σ s 0 ((σ 26 7) - 1) (by omega) (by decide) (by omega)) (fun r2 σ3 hq4 => ?_)
  obtain ⟨rfl, ⟨p1, rfl⟩ | ⟨p1, rfl⟩⟩ := hq4
  · refine sw_blk k_X8_begin 0 11 [(0, .inr (.inr 26)), (1, .inl s)] [.inl 1] σ rfl ?_
    refine sw_if_ne k_X8_begin rfl (by decide) 17 14 (by decide) rfl (fun _ => ?_) (fun c => absurd c (by decide))
    refine sw_blk k_X8_begin 2 21 [(0, .inr (.inr 26)), (1, .inl s)] [.inl (σ 26 12)] σ rfl ?_
    refine sw_if_ne k_X8_begin rfl (hσ 26 _) 44 24 (by decide) rfl (fun c5 => ?_) (fun c5 => ?_)
    · refine sw_blk k_X8_begin 1 46 [(0, .inr (.inr 26)), (1, .inl s)] [.inl (-4)] σ rfl ?_
      refine sw_ireturn k_X8_begin rfl rfl ?_
      exact Or.inr (Or.inl ⟨by have := sw_cnt_le (σ 32) 8; omega, rfl, rfl⟩)
    · refine sw_blk k_X8_begin 1 25 [(0, .inr (.inr 26)), (1, .inl s)] [.inr (.inr 26)] σ rfl ?_
      refine sw_callV k_X8_begin rfl cV_X8_opens ml_X8_132 ⟨by decide, by decide⟩ 26 rfl rfl [] [] rfl rfl (Nat.le_of_ble_eq_true rfl) 28 rfl (sp_opens σ (fun j => hσ 32 j)) (fun r6 σ7 hq8 => ?_)
      obtain ⟨rfl, rfl⟩ := hq8
      refine sw_blk k_X8_begin 0 28 [(0, .inr (.inr 26)), (1, .inl s)] [.inl (sw_cnt (σ 32) 8)] σ rfl ?_
      refine sw_if_gt k_X8_begin rfl (by have := sw_cnt_le (σ 32) 8; omega) 44 31 (by decide) rfl (fun c9 => ?_) (fun c9 => ?_)
      · refine sw_blk k_X8_begin 1 46 [(0, .inr (.inr 26)), (1, .inl s)] [.inl (-4)] σ rfl ?_
        refine sw_ireturn k_X8_begin rfl rfl ?_
        exact Or.inr (Or.inl ⟨by have := sw_cnt_le (σ 32) 8; omega, rfl, rfl⟩)
      · refine sw_blk k_X8_begin 5 40 [(0, .inr (.inr 26)), (1, .inl s)] [.inl s, .inr (.inr 31), .inl (σ 26 13)] σ rfl ?_
        refine sw_iald k_X8_begin rfl (i := 31) (n := 6) rfl (by decide) (by omega) (by omega) 41 rfl ?_
        refine sw_blk k_X8_begin 0 41 [(0, .inr (.inr 26)), (1, .inl s)] [.inl (σ 31 s.toNat), .inl (σ 26 13)] σ rfl ?_
        refine sw_icmp_eq k_X8_begin rfl (hσ 26 _) (hσ 31 _) 47 44 (by decide) rfl (fun c10 => ?_) (fun c10 => ?_)
        · refine sw_blk k_X8_begin 10 63 [(0, .inr (.inr 26)), (1, .inl s)] [.inl s, .inr (.inr 30), .inl (σ 26 10), .inr (.inr 26), .inr (.inr 26)] (sw_u σ 26 13 0) rfl ?_
          refine sw_iald k_X8_begin rfl (i := 30) (n := 6) rfl (by decide) (by omega) (by omega) 64 rfl ?_
          refine sw_blk k_X8_begin 0 64 [(0, .inr (.inr 26)), (1, .inl s)] [.inl (σ 30 s.toNat), .inl (σ 26 10), .inr (.inr 26), .inr (.inr 26)] (sw_u σ 26 13 0) rfl ?_
          refine sw_callV k_X8_begin rfl cV_X8_plans ml_X8_125 ⟨by decide, by decide⟩ 26 rfl rfl [.inl (σ 26 10), .inl (σ 30 s.toNat)] [.inr (.inr 26)] rfl rfl (Nat.le_of_ble_eq_true rfl) 67 rfl (sp_plans (sw_u σ 26 13 0) (sw_gs_u hσ 26 13 (by decide)) hz hD hV hA lim hl hL (σ 26 10) (σ 30 s.toNat) hpl (hsp s.toNat (by omega))) (fun r11 σ12 hq13 => ?_)
          obtain ⟨fk, hg, nn, rfl, n1, n2, n3, n4⟩ := hq13
          have hisr : sw_isr lim (σ 26 0) (σ 26 1) (σ 26 2) (σ 26 10) (σ 30 s.toNat) nn _ := ⟨⟨n1, n2, n3⟩, n4⟩
          refine sw_blk k_X8_begin 6 77 [(2, .inl 0), (0, .inr (.inr 26)), (1, .inl s)] [] (sw_u (sw_u σ12 26 22 (nn : Int)) 26 23 0) rfl ?_
          have h9 := lp_mbegin (sw_u (sw_u σ12 26 22 (nn : Int)) 26 23 0) (sw_gs_u (sw_gs_u hg 26 22 (by omega)) 26 23 (by decide)) nn rfl (by omega) s (fun r σ' => (¬ (0 ≤ s ∧ s ≤ σ 26 7 - 1) ∧ r = some (.inl (-2)) ∧ σ = σ') ∨ (((0 ≤ s ∧ s ≤ σ 26 7 - 1) ∧ ¬ (σ 26 12 = 0 ∧ sw_cnt (σ 32) 8 = 0 ∧ σ 26 13 = σ 31 s.toNat)) ∧ r = some (.inl (-4)) ∧ σ = σ') ∨ (((0 ≤ s ∧ s ≤ σ 26 7 - 1) ∧ (σ 26 12 = 0 ∧ sw_cnt (σ 32) 8 = 0 ∧ σ 26 13 = σ 31 s.toNat)) ∧ ∃ (n : Nat) (τ : sw_S), r = some (.inl (n : Int)) ∧ (∀ i j, i ≠ 35 → i ≠ 36 → i ≠ 37 → i ≠ 38 → τ i j = (sw_u σ 26 13 0) i j) ∧ sw_gs τ ∧ sw_isr lim (σ 26 0) (σ 26 1) (σ 26 2) (σ 26 10) (σ 30 s.toNat) n (τ 38) ∧ sw_u (sw_pf (sw_u (sw_u τ 26 22 (n : Int)) 26 23 0) 34 (τ 38) n) 26 12 (if 0 < (n : Int) then 1 else 0) = σ')) (Or.inr (Or.inr ⟨by have := sw_cnt_le (σ 32) 8; omega, nn, σ12, rfl, fk, hg, hisr, rfl⟩)) 402 0 (by omega) (by omega)
          rw [sw_pf_0] at h9
          exact h9
        · refine sw_blk k_X8_begin 1 46 [(0, .inr (.inr 26)), (1, .inl s)] [.inl (-4)] σ rfl ?_
          refine sw_ireturn k_X8_begin rfl rfl ?_
          exact Or.inr (Or.inl ⟨by have := sw_cnt_le (σ 32) 8; omega, rfl, rfl⟩)
  · refine sw_blk k_X8_begin 0 11 [(0, .inr (.inr 26)), (1, .inl s)] [.inl 0] σ rfl ?_
    refine sw_if_ne k_X8_begin rfl (by decide) 17 14 (by decide) rfl (fun c => absurd (by decide) c) (fun _ => ?_)
    refine sw_blk k_X8_begin 1 16 [(0, .inr (.inr 26)), (1, .inl s)] [.inl (-2)] σ rfl ?_
    refine sw_ireturn k_X8_begin rfl rfl ?_
    exact Or.inl ⟨by omega, rfl, rfl⟩
theorem lp_mfslip (σ : sw_S) (hσ : sw_gs σ) (hl0 : 0 ≤ σ 26 29 ∧ σ 26 29 ≤ 1000) (hl1 : 0 ≤ σ 26 30 ∧ σ 26 30 ≤ 1000) (hwt : 0 ≤ σ 26 31 ∧ σ 26 31 ≤ 10) (hD : 10 ≤ σ 26 0 ∧ σ 26 0 ≤ 400) (k : Int) (hk : 100 ≤ k ∧ k ≤ 400) (N : Nat) (p : Int) (hN : N ≤ 400) (hr : sw_rk (σ 26 0) (σ 38) N p) (Q : Option sw_Vl → sw_S → Prop) (hQ : ∀ x : Int, sw_fs (sw_sl (σ 26 29) (σ 26 30) (σ 26 31) (σ 26 0) (σ 38) N p k) N x → Q (some (.inl x)) σ) : ∀ (n : Nat) (t : Nat) (q b : Int), t ≤ N → q = sw_pl (σ 38) p t → b = sw_pv (σ 38) t → (∀ j, j < t → ¬ (sw_sl (σ 26 29) (σ 26 30) (σ 26 31) (σ 26 0) (σ 38) N p k) j) → 401 - t < n → sw_E sw_ly sw_rho M_X8_firstSlip 9 [(6, .inl (t : Int)), (5, .inl b), (4, .inl q), (0, .inr (.inr 26)), (1, .inl p), (2, .inl (N : Int)), (3, .inl k)] [] σ Q := by
  intro n
  induction n with
  | zero =>
    intro t q b ht hq hb hlt hn
    omega
  | succ n ih =>
    intro t q b ht hq hb hlt hn
    refine sw_blk k_X8_firstSlip 2 12 [(6, .inl (t : Int)), (5, .inl b), (4, .inl q), (0, .inr (.inr 26)), (1, .inl p), (2, .inl (N : Int)), (3, .inl k)] [.inl (N : Int), .inl (t : Int)] σ rfl ?_
    refine sw_icmp_ge k_X8_firstSlip rfl (by omega) (by omega) 62 15 (by decide) rfl (fun c1 => ?_) (fun c1 => ?_)
    · refine sw_blk k_X8_firstSlip 1 63 [(6, .inl (t : Int)), (5, .inl b), (4, .inl q), (0, .inr (.inr 26)), (1, .inl p), (2, .inl (N : Int)), (3, .inl k)] [.inl (N : Int)] σ rfl ?_
      refine sw_if_le k_X8_firstSlip rfl (by omega) 85 66 (by decide) rfl (fun c2 => ?_) (fun c2 => ?_)
      · refine sw_blk k_X8_firstSlip 1 86 [(6, .inl (t : Int)), (5, .inl b), (4, .inl q), (0, .inr (.inr 26)), (1, .inl p), (2, .inl (N : Int)), (3, .inl k)] [.inl (-1)] σ rfl ?_
        refine sw_ireturn k_X8_firstSlip rfl rfl ?_
        refine hQ _ ?_
        first
        | exact Or.inl ⟨by omega, rfl⟩
        | exact Or.inr ⟨by omega, Or.inr ⟨fun j hj => by rcases Nat.lt_or_ge j N with zz | zz; exact hlt j zz; rw [show j = N by omega]; exact hsl, rfl⟩⟩
      · refine sw_blk k_X8_firstSlip 5 73 [(6, .inl (t : Int)), (5, .inl b), (4, .inl q), (0, .inr (.inr 26)), (1, .inl p), (2, .inl (N : Int)), (3, .inl k)] [.inl k, .inl (-b), .inl q, .inr (.inr 26)] σ rfl ?_
        have hr9 := hr N (by omega)
        have eg : sw_gx (σ 38) N N = 0 := by unfold sw_gx; rw [if_neg (by omega)]
        have et : t = N := by omega
        rw [et] at hq hb hlt
        rw [← hq, ← hb, eg] at hr9
        have es : (sw_sl (σ 26 29) (σ 26 30) (σ 26 31) (σ 26 0) (σ 38) N p k) N ↔ sw_slp (σ 26 29) (σ 26 30) (σ 26 31) (σ 26 0) q (-b) k := by
          unfold sw_sl
          rw [← hq, ← hb, eg]; rw [show (0 : Int) - b = -b by omega]
        refine sw_callV k_X8_firstSlip rfl cV_X8_isSlipping ml_X8_175 ⟨by decide, by decide⟩ 26 rfl rfl [.inl q, .inl (-b), .inl k] [] rfl rfl (Nat.le_of_ble_eq_true rfl) 76 rfl (sp_mSlips σ hl0 hl1 hwt hD q (-b) k hr9.1 (by omega) (by omega)) (fun r4 σ5 hq6 => ?_)
        obtain ⟨rfl, ⟨p3, rfl⟩ | ⟨p3, rfl⟩⟩ := hq6
        · have hsl := es.mpr p3
          refine sw_blk k_X8_firstSlip 0 76 [(6, .inl (t : Int)), (5, .inl b), (4, .inl q), (0, .inr (.inr 26)), (1, .inl p), (2, .inl (N : Int)), (3, .inl k)] [.inl 1] σ rfl ?_
          refine sw_if_eq k_X8_firstSlip rfl (by decide) 85 79 (by decide) rfl (fun c => absurd c (by decide)) (fun _ => ?_)
          refine sw_blk k_X8_firstSlip 4 86 [(6, .inl (t : Int)), (5, .inl b), (4, .inl q), (0, .inr (.inr 26)), (1, .inl p), (2, .inl (N : Int)), (3, .inl k)] [.inl ((N : Int) + 1)] σ rfl ?_
          refine sw_ireturn k_X8_firstSlip rfl rfl ?_
          exact hQ _ (Or.inr ⟨by omega, Or.inl ⟨N, Nat.le_refl N, hsl, hlt, rfl⟩⟩)
        · have hsl : ¬ _ := fun z => p3 (es.mp z)
          refine sw_blk k_X8_firstSlip 0 76 [(6, .inl (t : Int)), (5, .inl b), (4, .inl q), (0, .inr (.inr 26)), (1, .inl p), (2, .inl (N : Int)), (3, .inl k)] [.inl 0] σ rfl ?_
          refine sw_if_eq k_X8_firstSlip rfl (by decide) 85 79 (by decide) rfl (fun _ => ?_) (fun c => absurd (by decide) c)
          refine sw_blk k_X8_firstSlip 1 86 [(6, .inl (t : Int)), (5, .inl b), (4, .inl q), (0, .inr (.inr 26)), (1, .inl p), (2, .inl (N : Int)), (3, .inl k)] [.inl (-1)] σ rfl ?_
          refine sw_ireturn k_X8_firstSlip rfl rfl ?_
          refine hQ _ ?_
          first
          | exact Or.inl ⟨by omega, rfl⟩
          | exact Or.inr ⟨by omega, Or.inr ⟨fun j hj => by rcases Nat.lt_or_ge j N with zz | zz; exact hlt j zz; rw [show j = N by omega]; exact hsl, rfl⟩⟩
    · refine sw_blk k_X8_firstSlip 5 24 [(6, .inl (t : Int)), (5, .inl b), (4, .inl q), (0, .inr (.inr 26)), (1, .inl p), (2, .inl (N : Int)), (3, .inl k)] [.inl (t : Int), .inr (.inr 38), .inl q, .inr (.inr 26)] σ rfl ?_
      refine sw_iald k_X8_firstSlip rfl (i := 38) (n := 600) rfl (by decide) (by omega) (by omega) 25 rfl ?_
      refine sw_blk k_X8_firstSlip 3 29 [(6, .inl (t : Int)), (5, .inl b), (4, .inl q), (0, .inr (.inr 26)), (1, .inl p), (2, .inl (N : Int)), (3, .inl k)] [.inl k, .inl ((σ 38 t) - b), .inl q, .inr (.inr 26)] σ rfl ?_
      have hr9 := hr t (by omega)
      have eg : sw_gx (σ 38) N t = σ 38 t := by unfold sw_gx; rw [if_pos (by omega)]
      rw [← hq, ← hb, eg] at hr9
      have es : (sw_sl (σ 26 29) (σ 26 30) (σ 26 31) (σ 26 0) (σ 38) N p k) t ↔ sw_slp (σ 26 29) (σ 26 30) (σ 26 31) (σ 26 0) q ((σ 38 t) - b) k := by
        unfold sw_sl
        rw [← hq, ← hb, eg]
      refine sw_callV k_X8_firstSlip rfl cV_X8_isSlipping ml_X8_175 ⟨by decide, by decide⟩ 26 rfl rfl [.inl q, .inl ((σ 38 t) - b), .inl k] [] rfl rfl (Nat.le_of_ble_eq_true rfl) 32 rfl (sp_mSlips σ hl0 hl1 hwt hD q ((σ 38 t) - b) k hr9.1 (by omega) (by omega)) (fun r8 σ9 hq10 => ?_)
      obtain ⟨rfl, ⟨p7, rfl⟩ | ⟨p7, rfl⟩⟩ := hq10
      · have hsl := es.mpr p7
        refine sw_blk k_X8_firstSlip 0 32 [(6, .inl (t : Int)), (5, .inl b), (4, .inl q), (0, .inr (.inr 26)), (1, .inl p), (2, .inl (N : Int)), (3, .inl k)] [.inl 1] σ rfl ?_
        refine sw_if_eq k_X8_firstSlip rfl (by decide) 40 35 (by decide) rfl (fun c => absurd c (by decide)) (fun _ => ?_)
        refine sw_blk k_X8_firstSlip 3 39 [(6, .inl (t : Int)), (5, .inl b), (4, .inl q), (0, .inr (.inr 26)), (1, .inl p), (2, .inl (N : Int)), (3, .inl k)] [.inl ((t : Int) + 1)] σ rfl ?_
        refine sw_ireturn k_X8_firstSlip rfl rfl ?_
        exact hQ _ (Or.inr ⟨by omega, Or.inl ⟨t, by omega, hsl, hlt, rfl⟩⟩)
      · have hsl : ¬ _ := fun z => p7 (es.mp z)
        refine sw_blk k_X8_firstSlip 0 32 [(6, .inl (t : Int)), (5, .inl b), (4, .inl q), (0, .inr (.inr 26)), (1, .inl p), (2, .inl (N : Int)), (3, .inl k)] [.inl 0] σ rfl ?_
        refine sw_if_eq k_X8_firstSlip rfl (by decide) 40 35 (by decide) rfl (fun _ => ?_) (fun c => absurd (by decide) c)
        refine sw_blk k_X8_firstSlip 3 46 [(6, .inl (t : Int)), (5, .inl b), (4, .inl q), (0, .inr (.inr 26)), (1, .inl p), (2, .inl (N : Int)), (3, .inl k)] [.inl (t : Int), .inr (.inr 38)] σ rfl ?_
        refine sw_iald k_X8_firstSlip rfl (i := 38) (n := 600) rfl (by decide) (by omega) (by omega) 47 rfl ?_
        refine sw_blk k_X8_firstSlip 7 9 [(6, .inl ((t : Int) + 1)), (4, .inl (q + (σ 38 t))), (5, .inl (σ 38 t)), (0, .inr (.inr 26)), (1, .inl p), (2, .inl (N : Int)), (3, .inl k)] [] σ rfl ?_
        refine sw_Lsub [(6, .inl ((t : Int) + 1)), (5, .inl (σ 38 t)), (4, .inl (q + (σ 38 t))), (0, .inr (.inr 26)), (1, .inl p), (2, .inl (N : Int)), (3, .inl k)] [0, 2, 1, 3, 4, 5, 6] rfl ?_
        exact ih (t + 1) _ _ (by omega) (by rw [hq]; rfl) rfl (fun j hj => by rcases Nat.lt_or_ge j t with zz | zz; exact hlt j zz; rw [show j = t by omega]; exact hsl) (by omega)
theorem sp_mfslip (σ : sw_S) (hσ : sw_gs σ) (hl0 : 0 ≤ σ 26 29 ∧ σ 26 29 ≤ 1000) (hl1 : 0 ≤ σ 26 30 ∧ σ 26 30 ≤ 1000) (hwt : 0 ≤ σ 26 31 ∧ σ 26 31 ≤ 10) (hD : 10 ≤ σ 26 0 ∧ σ 26 0 ≤ 400) (k : Int) (hk : 100 ≤ k ∧ k ≤ 400) (N : Nat) (p : Int) (hN : N ≤ 400) (hr : sw_rk (σ 26 0) (σ 38) N p) : sw_Con sw_ly sw_rho M_X8_firstSlip [.inr (.inr 26), .inl p, .inl (N : Int), .inl k] σ (fun r σ' => σ = σ' ∧ ∃ x : Int, r = some (.inl x) ∧ sw_fs (sw_sl (σ 26 29) (σ 26 30) (σ 26 31) (σ 26 0) (σ 38) N p k) N x) := by
  refine sw_con (by decide) (Nat.le_of_ble_eq_true rfl) ?_
  refine sw_blk k_X8_firstSlip 6 9 [(6, .inl 0), (5, .inl 0), (4, .inl p), (0, .inr (.inr 26)), (1, .inl p), (2, .inl (N : Int)), (3, .inl k)] [] σ rfl ?_
  exact lp_mfslip σ hσ hl0 hl1 hwt hD k hk N p hN hr _ (fun x hx => ⟨rfl, x, rfl, hx⟩) 402 0 p 0 (by omega) rfl rfl (fun j hj => by omega) (by omega)
theorem mm_slipAt (σ : sw_S) (hσ : sw_gs σ) (hz : 0 ≤ σ 26 3 ∧ σ 26 3 ≤ 6) (hD : 10 ≤ σ 26 0 ∧ σ 26 0 ≤ 400) (hV : 1 ≤ σ 26 1 ∧ σ 26 1 ≤ 20) (hA : 1 ≤ σ 26 2 ∧ σ 26 2 ≤ 5) (lim : Nat → Int) (hl : ∀ j : Nat, (j : Int) ≤ σ 26 0 → lim j = sw_lm σ j) (hL : ∀ x : Int, 0 ≤ x → x ≤ σ 26 0 → 1 ≤ lim x.toNat) (hpl : 0 ≤ σ 26 10 ∧ σ 26 10 ≤ σ 26 0) (hl0 : 0 ≤ σ 26 29 ∧ σ 26 29 ≤ 1000) (hl1 : 0 ≤ σ 26 30 ∧ σ 26 30 ≤ 1000) (hwt : 0 ≤ σ 26 31 ∧ σ 26 31 ≤ 10) (hkp : 100 ≤ σ 26 32 ∧ σ 26 32 ≤ 400) (q : Int) (gq : sw_g q) : sw_Con sw_ly sw_rho M_X8_slipAt [.inr (.inr 26), .inl q] σ (fun r σ' => (¬ (0 ≤ q ∧ q ≤ σ 26 0) ∧ r = some (.inl (-2)) ∧ σ = σ') ∨ (((0 ≤ q ∧ q ≤ σ 26 0) ∧ ¬ σ 26 12 = 0) ∧ r = some (.inl (-4)) ∧ σ = σ') ∨ (((0 ≤ q ∧ q ≤ σ 26 0) ∧ σ 26 12 = 0) ∧ (∀ i j, i ≠ 35 → i ≠ 36 → i ≠ 37 → i ≠ 38 → σ' i j = σ i j) ∧ sw_gs σ' ∧ ∃ (n : Nat) (x : Int), r = some (.inl x) ∧ sw_isr lim (σ 26 0) (σ 26 1) (σ 26 2) (σ 26 10) q n (σ' 38) ∧ sw_fs (sw_sl (σ 26 29) (σ 26 30) (σ 26 31) (σ 26 0) (σ' 38) n (σ 26 10) (σ 26 32)) n x)) := by
  refine sw_con (by decide) (Nat.le_of_ble_eq_true rfl) ?_
  refine sw_blk k_X8_slipAt 2 2 [(0, .inr (.inr 26)), (1, .inl q)] [.inl q, .inr (.inr 26)] σ rfl ?_
  refine sw_callV k_X8_slipAt rfl cV_X8_isPlace ml_X8_103 ⟨by decide, by decide⟩ 26 rfl rfl [.inl q] [] rfl rfl (Nat.le_of_ble_eq_true rfl) 5 rfl (sp_mPlace σ q (by omega) (hσ 26 0)) (fun r2 σ3 hq4 => ?_)
  obtain ⟨rfl, ⟨p1, rfl⟩ | ⟨p1, rfl⟩⟩ := hq4
  · have p1 : 0 ≤ q ∧ q ≤ (σ 26 0) := p1
    refine sw_blk k_X8_slipAt 0 5 [(0, .inr (.inr 26)), (1, .inl q)] [.inl 1] σ rfl ?_
    refine sw_if_ne k_X8_slipAt rfl (by decide) 11 8 (by decide) rfl (fun _ => ?_) (fun c => absurd c (by decide))
    refine sw_blk k_X8_slipAt 2 15 [(0, .inr (.inr 26)), (1, .inl q)] [.inl (σ 26 12)] σ rfl ?_
    refine sw_if_ne k_X8_slipAt rfl (hσ 26 _) 42 18 (by decide) rfl (fun c5 => ?_) (fun c5 => ?_)
    · refine sw_blk k_X8_slipAt 1 44 [(0, .inr (.inr 26)), (1, .inl q)] [.inl (-4)] σ rfl ?_
      refine sw_ireturn k_X8_slipAt rfl rfl ?_
      exact Or.inr (Or.inl ⟨by omega, rfl, rfl⟩)
    · refine sw_blk k_X8_slipAt 7 29 [(0, .inr (.inr 26)), (1, .inl q)] [.inl q, .inl (σ 26 10), .inr (.inr 26), .inl (σ 26 10), .inr (.inr 26)] σ rfl ?_
      refine sw_callV k_X8_slipAt rfl cV_X8_plans ml_X8_125 ⟨by decide, by decide⟩ 26 rfl rfl [.inl (σ 26 10), .inl q] [.inl (σ 26 10), .inr (.inr 26)] rfl rfl (Nat.le_of_ble_eq_true rfl) 32 rfl (sp_plans σ hσ hz hD hV hA lim hl hL (σ 26 10) q (by omega) (by omega)) (fun r6 σ7 hq8 => ?_)
      obtain ⟨fk, hg, nn, rfl, n1, n2, n3, n4⟩ := hq8
      have hisr : sw_isr lim (σ 26 0) (σ 26 1) (σ 26 2) (σ 26 10) q nn _ := ⟨⟨n1, n2, n3⟩, n4⟩
      refine sw_blk k_X8_slipAt 2 36 [(0, .inr (.inr 26)), (1, .inl q)] [.inl (σ7 26 32), .inl (nn : Int), .inl (σ 26 10), .inr (.inr 26)] σ7 rfl ?_
      have e26 : σ7 26 = σ 26 := funext fun j => fk 26 j (by decide) (by decide) (by decide) (by decide)
      have hrk : sw_rk (σ7 26 0) (σ7 38) nn (σ7 26 10) := by rw [e26]; exact sw_isr_rk hA hpl hisr
      refine sw_callV k_X8_slipAt rfl cV_X8_firstSlip ml_X8_178 ⟨by decide, by decide⟩ 26 rfl rfl [.inl (σ 26 10), .inl (nn : Int), .inl (σ7 26 32)] [] rfl rfl (Nat.le_of_ble_eq_true rfl) 39 rfl (sp_mfslip σ7 hg (by rw [e26]; exact hl0) (by rw [e26]; exact hl1) (by rw [e26]; exact hwt) (by rw [e26]; exact hD) (σ7 26 32) (by rw [e26]; exact hkp) nn (σ 26 10) (by omega) (by rw [e26] at hrk ⊢; exact hrk)) (fun r9 σ10 hq11 => ?_)
      obtain ⟨rfl, x, rfl, hx⟩ := hq11
      rw [e26] at hx
      refine sw_blk k_X8_slipAt 1 44 [(0, .inr (.inr 26)), (1, .inl q)] [.inl x] σ7 rfl ?_
      refine sw_ireturn k_X8_slipAt rfl rfl ?_
      exact Or.inr (Or.inr ⟨by omega, fk, hg, nn, x, rfl, hisr, hx⟩)
  · have p1 : ¬ (0 ≤ q ∧ q ≤ (σ 26 0)) := p1
    refine sw_blk k_X8_slipAt 0 5 [(0, .inr (.inr 26)), (1, .inl q)] [.inl 0] σ rfl ?_
    refine sw_if_ne k_X8_slipAt rfl (by decide) 11 8 (by decide) rfl (fun c => absurd (by decide) c) (fun _ => ?_)
    refine sw_blk k_X8_slipAt 1 10 [(0, .inr (.inr 26)), (1, .inl q)] [.inl (-2)] σ rfl ?_
    refine sw_ireturn k_X8_slipAt rfl rfl ?_
    exact Or.inl ⟨by omega, rfl, rfl⟩
theorem lp_mhold (σ : sw_S) (hσ : sw_gs σ) (hl0 : 0 ≤ σ 26 29 ∧ σ 26 29 ≤ 1000) (hl1 : 0 ≤ σ 26 30 ∧ σ 26 30 ≤ 1000) (hwt : 0 ≤ σ 26 31 ∧ σ 26 31 ≤ 10) (hD : 10 ≤ σ 26 0 ∧ σ 26 0 ≤ 400) (N : Nat) (q : Int) (hN : N ≤ 400) (hr : sw_rk (σ 26 0) (σ 38) N (σ 26 10)) (Q : Option sw_Vl → sw_S → Prop) (hQ : ∀ x : Int, sw_lr (fun z => (sw_sl (σ 26 29) (σ 26 30) (σ 26 31) (σ 26 0) (σ 38) N (σ 26 10) z)) N x → Q (some (.inl x)) σ) : ∀ (n : Nat) (y : Int), (100 ≤ y ∧ y ≤ 401) → (∀ z : Int, 100 ≤ z → z < y → ∃ j, 0 < N ∧ j ≤ N ∧ (sw_sl (σ 26 29) (σ 26 30) (σ 26 31) (σ 26 0) (σ 38) N (σ 26 10) z) j) → (401 - y).toNat < n → sw_E sw_ly sw_rho M_X8_hold 34 [(3, .inl y), (2, .inl (N : Int)), (0, .inr (.inr 26)), (1, .inl q)] [] σ Q := by
  intro n
  induction n with
  | zero =>
    intro y hy h3 hn
    omega
  | succ n ih =>
    intro y hy h3 hn
    refine sw_blk k_X8_hold 2 38 [(3, .inl y), (2, .inl (N : Int)), (0, .inr (.inr 26)), (1, .inl q)] [.inl 400, .inl y] σ rfl ?_
    refine sw_icmp_gt k_X8_hold rfl (by omega) (by decide) 63 41 (by decide) rfl (fun c1 => ?_) (fun c1 => ?_)
    · refine sw_blk k_X8_hold 1 64 [(3, .inl y), (2, .inl (N : Int)), (0, .inr (.inr 26)), (1, .inl q)] [.inl (-1)] σ rfl ?_
      refine sw_ireturn k_X8_hold rfl rfl ?_
      exact hQ (-1) (Or.inr ⟨rfl, fun z z1 z2 => h3 z z1 (by omega)⟩)
    · refine sw_blk k_X8_hold 5 48 [(3, .inl y), (2, .inl (N : Int)), (0, .inr (.inr 26)), (1, .inl q)] [.inl y, .inl (N : Int), .inl (σ 26 10), .inr (.inr 26)] σ rfl ?_
      refine sw_callV k_X8_hold rfl cV_X8_firstSlip ml_X8_178 ⟨by decide, by decide⟩ 26 rfl rfl [.inl (σ 26 10), .inl (N : Int), .inl y] [] rfl rfl (Nat.le_of_ble_eq_true rfl) 51 rfl (sp_mfslip σ hσ hl0 hl1 hwt hD y (by omega) N (σ 26 10) hN hr) (fun r2 σ3 hq4 => ?_)
      obtain ⟨rfl, x, rfl, hx⟩ := hq4
      have gx : sw_g x := by
        rcases hx with ⟨h1, h2⟩ | ⟨h1, ⟨j, h2, h3, h4, h5⟩ | ⟨h2, h3⟩⟩ <;> omega
      refine sw_blk k_X8_hold 1 52 [(3, .inl y), (2, .inl (N : Int)), (0, .inr (.inr 26)), (1, .inl q)] [.inl (-1), .inl x] σ rfl ?_
      refine sw_icmp_ne k_X8_hold rfl gx (by decide) 57 55 (by decide) rfl (fun c5 => ?_) (fun c5 => ?_)
      · refine sw_blk k_X8_hold 2 34 [(3, .inl (y + 1)), (2, .inl (N : Int)), (0, .inr (.inr 26)), (1, .inl q)] [] σ rfl ?_
        refine ih (y + 1) (by omega) (fun z z1 z2 => ?_) (by omega)
        rcases Int.lt_or_le z y with yy | yy
        · exact h3 z z1 yy
        · rw [show z = y by omega]
          rcases hx with ⟨h1, h2⟩ | ⟨h1, ⟨j, h2, h4, h5, h6⟩ | ⟨h2, h4⟩⟩
          · omega
          · exact ⟨j, h1, h2, h4⟩
          · omega
      · refine sw_blk k_X8_hold 1 56 [(3, .inl y), (2, .inl (N : Int)), (0, .inr (.inr 26)), (1, .inl q)] [.inl y] σ rfl ?_
        refine sw_ireturn k_X8_hold rfl rfl ?_
        refine hQ y (Or.inl ⟨by omega, by omega, fun j j0 j1 => ?_, h3⟩)
        rcases hx with ⟨h1, h2⟩ | ⟨h1, ⟨i, h2, h4, h5, h6⟩ | ⟨h2, h4⟩⟩
        · omega
        · omega
        · exact h2 j j1
theorem mm_hold (σ : sw_S) (hσ : sw_gs σ) (hz : 0 ≤ σ 26 3 ∧ σ 26 3 ≤ 6) (hD : 10 ≤ σ 26 0 ∧ σ 26 0 ≤ 400) (hV : 1 ≤ σ 26 1 ∧ σ 26 1 ≤ 20) (hA : 1 ≤ σ 26 2 ∧ σ 26 2 ≤ 5) (lim : Nat → Int) (hl : ∀ j : Nat, (j : Int) ≤ σ 26 0 → lim j = sw_lm σ j) (hL : ∀ x : Int, 0 ≤ x → x ≤ σ 26 0 → 1 ≤ lim x.toNat) (hpl : 0 ≤ σ 26 10 ∧ σ 26 10 ≤ σ 26 0) (hl0 : 0 ≤ σ 26 29 ∧ σ 26 29 ≤ 1000) (hl1 : 0 ≤ σ 26 30 ∧ σ 26 30 ≤ 1000) (hwt : 0 ≤ σ 26 31 ∧ σ 26 31 ≤ 10) (q : Int) (gq : sw_g q) : sw_Con sw_ly sw_rho M_X8_hold [.inr (.inr 26), .inl q] σ (fun r σ' => (¬ (0 ≤ q ∧ q ≤ σ 26 0) ∧ r = some (.inl (-2)) ∧ σ = σ') ∨ (((0 ≤ q ∧ q ≤ σ 26 0) ∧ ¬ σ 26 12 = 0) ∧ r = some (.inl (-4)) ∧ σ = σ') ∨ (((0 ≤ q ∧ q ≤ σ 26 0) ∧ σ 26 12 = 0) ∧ (∀ i j, i ≠ 35 → i ≠ 36 → i ≠ 37 → i ≠ 38 → σ' i j = σ i j) ∧ sw_gs σ' ∧ ∃ (n : Nat) (x : Int), r = some (.inl x) ∧ sw_isr lim (σ 26 0) (σ 26 1) (σ 26 2) (σ 26 10) q n (σ' 38) ∧ sw_lr (fun z => (sw_sl (σ 26 29) (σ 26 30) (σ 26 31) (σ 26 0) (σ' 38) n (σ 26 10) z)) n x)) := by
  refine sw_con (by decide) (Nat.le_of_ble_eq_true rfl) ?_
  refine sw_blk k_X8_hold 2 2 [(0, .inr (.inr 26)), (1, .inl q)] [.inl q, .inr (.inr 26)] σ rfl ?_
  refine sw_callV k_X8_hold rfl cV_X8_isPlace ml_X8_103 ⟨by decide, by decide⟩ 26 rfl rfl [.inl q] [] rfl rfl (Nat.le_of_ble_eq_true rfl) 5 rfl (sp_mPlace σ q (by omega) (hσ 26 0)) (fun r2 σ3 hq4 => ?_)
  obtain ⟨rfl, ⟨p1, rfl⟩ | ⟨p1, rfl⟩⟩ := hq4
  · have p1 : 0 ≤ q ∧ q ≤ (σ 26 0) := p1
    refine sw_blk k_X8_hold 0 5 [(0, .inr (.inr 26)), (1, .inl q)] [.inl 1] σ rfl ?_
    refine sw_if_ne k_X8_hold rfl (by decide) 11 8 (by decide) rfl (fun _ => ?_) (fun c => absurd c (by decide))
    refine sw_blk k_X8_hold 2 15 [(0, .inr (.inr 26)), (1, .inl q)] [.inl (σ 26 12)] σ rfl ?_
    refine sw_if_eq k_X8_hold rfl (hσ 26 _) 21 18 (by decide) rfl (fun c5 => ?_) (fun c5 => ?_)
    · refine sw_blk k_X8_hold 4 27 [(0, .inr (.inr 26)), (1, .inl q)] [.inl q, .inl (σ 26 10), .inr (.inr 26)] σ rfl ?_
      refine sw_callV k_X8_hold rfl cV_X8_plans ml_X8_125 ⟨by decide, by decide⟩ 26 rfl rfl [.inl (σ 26 10), .inl q] [] rfl rfl (Nat.le_of_ble_eq_true rfl) 30 rfl (sp_plans σ hσ hz hD hV hA lim hl hL (σ 26 10) q (by omega) (by omega)) (fun r6 σ7 hq8 => ?_)
      obtain ⟨fk, hg, nn, rfl, n1, n2, n3, n4⟩ := hq8
      have hisr : sw_isr lim (σ 26 0) (σ 26 1) (σ 26 2) (σ 26 10) q nn _ := ⟨⟨n1, n2, n3⟩, n4⟩
      refine sw_blk k_X8_hold 3 34 [(3, .inl 100), (2, .inl (nn : Int)), (0, .inr (.inr 26)), (1, .inl q)] [] σ7 rfl ?_
      have e26 : σ7 26 = σ 26 := funext fun j => fk 26 j (by decide) (by decide) (by decide) (by decide)
      have hrk : sw_rk (σ7 26 0) (σ7 38) nn (σ7 26 10) := by rw [e26]; exact sw_isr_rk hA hpl hisr
      refine lp_mhold σ7 hg (by rw [e26]; exact hl0) (by rw [e26]; exact hl1) (by rw [e26]; exact hwt) (by rw [e26]; exact hD) nn q (by omega) hrk _ (fun x hx => ?_) 402 100 (by omega) (fun z z1 z2 => by omega) (by omega)
      rw [e26] at hx
      exact Or.inr (Or.inr ⟨by omega, fk, hg, nn, x, rfl, hisr, hx⟩)
    · refine sw_blk k_X8_hold 1 20 [(0, .inr (.inr 26)), (1, .inl q)] [.inl (-4)] σ rfl ?_
      refine sw_ireturn k_X8_hold rfl rfl ?_
      exact Or.inr (Or.inl ⟨by omega, rfl, rfl⟩)
  · have p1 : ¬ (0 ≤ q ∧ q ≤ (σ 26 0)) := p1
    refine sw_blk k_X8_hold 0 5 [(0, .inr (.inr 26)), (1, .inl q)] [.inl 0] σ rfl ?_
    refine sw_if_ne k_X8_hold rfl (by decide) 11 8 (by decide) rfl (fun c => absurd (by decide) c) (fun _ => ?_)
    refine sw_blk k_X8_hold 1 10 [(0, .inr (.inr 26)), (1, .inl q)] [.inl (-2)] σ rfl ?_
    refine sw_ireturn k_X8_hold rfl rfl ?_
    exact Or.inl ⟨by omega, rfl, rfl⟩
theorem sw_isn_rev {lim : Nat → Int} {D V A p q : Int} {m n : Nat} (hA : 1 ≤ A) (hp : 0 ≤ p ∧ p ≤ D) (hq : 0 ≤ q ∧ q ≤ D) (h : sw_isn lim D V A p q m) (k : sw_isn lim D V A q p n) : m = n := by
  have key : ∀ (p q : Int) (m n : Nat), (0 ≤ p ∧ p ≤ D) → (0 ≤ q ∧ q ≤ D) → sw_isn lim D V A p q m → sw_isn lim D V A q p n → p < q → m = n := by
    intro p q m n hp hq h k hpq
    obtain ⟨-, h1, h2⟩ := h
    obtain ⟨-, k1, k2⟩ := k
    have e1 : sw_abs (q - p) = q - p := by unfold sw_abs; rw [if_neg (by omega)]
    have e2 : sw_abs (p - q) = q - p := by unfold sw_abs; rw [if_pos (by omega)]; omega
    rw [if_pos hpq, e1] at h1 h2
    rw [if_neg (by omega), e2] at k1 k2
    have b1 := sw_R_back (w := 1) (Or.inl rfl) (by omega) (p := p) (D0 := q - p) (by omega) hp h1
    have b2 := sw_R_back (w := -1) (Or.inr rfl) (by omega) (p := q) (D0 := q - p) (by omega) hq k1
    rcases Nat.lt_trichotomy m n with z | z | z
    · exact absurd b1 (k2 m z)
    · exact z
    · exact absurd b2 (h2 n z)
  rcases Int.lt_trichotomy p q with z | z | z
  · exact key p q m n hp hq h k z
  · subst z
    have e : sw_abs (p - p) = 0 := by unfold sw_abs; rw [if_neg (by omega)]; omega
    have h1 := h.2.1
    have k1 := k.2.1
    rw [e] at h1 k1
    have := sw_R_le _ _ _ h1
    have := sw_R_le _ _ _ k1
    omega
  · exact (key q p n m hq hp k h z).symm
theorem sw_trips {n c : Int} (hn : 1 ≤ n ∧ n ≤ 500) (hc : 1 ≤ c ∧ c ≤ 50) : 0 ≤ (n + c - 1) / c ∧ (n + c - 1) / c ≤ 600 := by
  refine ⟨Int.ediv_nonneg (by omega) (by omega), ?_⟩
  have := Int.ediv_le_self (a := n + c - 1) c (by omega)
  omega
theorem mm_shift (σ : sw_S) (hσ : sw_gs σ) (hz : 0 ≤ σ 26 3 ∧ σ 26 3 ≤ 6) (hD : 10 ≤ σ 26 0 ∧ σ 26 0 ≤ 400) (hV : 1 ≤ σ 26 1 ∧ σ 26 1 ≤ 20) (hA : 1 ≤ σ 26 2 ∧ σ 26 2 ≤ 5) (lim : Nat → Int) (hl : ∀ j : Nat, (j : Int) ≤ σ 26 0 → lim j = sw_lm σ j) (hL : ∀ x : Int, 0 ≤ x → x ≤ σ 26 0 → 1 ≤ lim x.toNat) (q n c b : Int) (gq : sw_g q) (gn : sw_g n) (gc : sw_g c) (gb : sw_g b) : sw_Con sw_ly sw_rho M_X8_shift [.inr (.inr 26), .inl q, .inl n, .inl c, .inl b] σ (fun r σ' => (¬ ((0 ≤ q ∧ q ≤ σ 26 0) ∧ ((1 ≤ n ∧ n ≤ 500) ∧ (1 ≤ c ∧ c ≤ 50) ∧ (0 ≤ b ∧ b ≤ 100))) ∧ r = some (.inl (-2)) ∧ σ = σ') ∨ (((0 ≤ q ∧ q ≤ σ 26 0) ∧ ((1 ≤ n ∧ n ≤ 500) ∧ (1 ≤ c ∧ c ≤ 50) ∧ (0 ≤ b ∧ b ≤ 100))) ∧ (∀ i j, i ≠ 35 → i ≠ 36 → i ≠ 37 → i ≠ 38 → σ' i j = σ i j) ∧ sw_gs σ' ∧ ∃ m : Nat, r = some (.inl (((n + c - 1) / c) * (2 * b + m) + (((n + c - 1) / c) - 1) * m)) ∧ sw_isn lim (σ 26 0) (σ 26 1) (σ 26 2) 0 q m)) := by
  refine sw_con (by decide) (Nat.le_of_ble_eq_true rfl) ?_
  refine sw_blk k_X8_shift 2 2 [(0, .inr (.inr 26)), (1, .inl q), (2, .inl n), (3, .inl c), (4, .inl b)] [.inl q, .inr (.inr 26)] σ rfl ?_
  refine sw_callV k_X8_shift rfl cV_X8_isPlace ml_X8_103 ⟨by decide, by decide⟩ 26 rfl rfl [.inl q] [] rfl rfl (Nat.le_of_ble_eq_true rfl) 5 rfl (sp_mPlace σ q (by omega) (hσ 26 0)) (fun r2 σ3 hq4 => ?_)
  obtain ⟨rfl, ⟨p1, rfl⟩ | ⟨p1, rfl⟩⟩ := hq4
  · have p1 : 0 ≤ q ∧ q ≤ (σ 26 0) := p1
    refine sw_blk k_X8_shift 0 5 [(0, .inr (.inr 26)), (1, .inl q), (2, .inl n), (3, .inl c), (4, .inl b)] [.inl 1] σ rfl ?_
    refine sw_if_eq k_X8_shift rfl (by decide) 18 8 (by decide) rfl (fun c => absurd c (by decide)) (fun _ => ?_)
    refine sw_blk k_X8_shift 3 12 [(0, .inr (.inr 26)), (1, .inl q), (2, .inl n), (3, .inl c), (4, .inl b)] [.inl b, .inl c, .inl n] σ rfl ?_
    refine sw_callS k_X8_shift rfl cS_X8_areMen ml_X8_188 ⟨by decide, by decide⟩ [.inl n, .inl c, .inl b] [] rfl rfl (Nat.le_of_ble_eq_true rfl) 15 rfl (sp_mMen σ n c b (by omega) (by omega) (by omega)) (fun r6 σ7 hq8 => ?_)
    obtain ⟨rfl, ⟨p5, rfl⟩ | ⟨p5, rfl⟩⟩ := hq8
    · refine sw_blk k_X8_shift 0 15 [(0, .inr (.inr 26)), (1, .inl q), (2, .inl n), (3, .inl c), (4, .inl b)] [.inl 1] σ rfl ?_
      refine sw_if_ne k_X8_shift rfl (by decide) 21 18 (by decide) rfl (fun _ => ?_) (fun c => absurd c (by decide))
      refine sw_blk k_X8_shift 6 27 [(0, .inr (.inr 26)), (1, .inl q), (2, .inl n), (3, .inl c), (4, .inl b)] [.inl c, .inl ((n + c) - 1)] σ rfl ?_
      refine sw_idiv k_X8_shift rfl (by omega) (by omega) (by omega) (by omega) 28 rfl ?_
      refine sw_blk k_X8_shift 4 33 [(5, .inl (((n + c) - 1) / c)), (0, .inr (.inr 26)), (1, .inl q), (2, .inl n), (3, .inl c), (4, .inl b)] [.inl q, .inl 0, .inr (.inr 26)] σ rfl ?_
      refine sw_callV k_X8_shift rfl cV_X8_plans ml_X8_125 ⟨by decide, by decide⟩ 26 rfl rfl [.inl 0, .inl q] [] rfl rfl (Nat.le_of_ble_eq_true rfl) 36 rfl (sp_plans σ hσ hz hD hV hA lim hl hL 0 q (by omega) (by omega)) (fun r9 σ10 hq11 => ?_)
      obtain ⟨fk, hg, m1, rfl, n1, n2, n3, n4⟩ := hq11
      have hi1 : sw_isn lim (σ 26 0) (σ 26 1) (σ 26 2) 0 q m1 := ⟨n1, n2, n3⟩
      refine sw_blk k_X8_shift 4 41 [(6, .inl (m1 : Int)), (5, .inl (((n + c) - 1) / c)), (0, .inr (.inr 26)), (1, .inl q), (2, .inl n), (3, .inl c), (4, .inl b)] [.inl 0, .inl q, .inr (.inr 26)] σ10 rfl ?_
      have e26 : σ10 26 = σ 26 := funext fun j => fk 26 j (by decide) (by decide) (by decide) (by decide)
      have elm : ∀ j, sw_lm σ10 j = sw_lm σ j := fun j => by
        unfold sw_lm
        rw [e26, show σ10 27 = σ 27 from funext fun j => fk 27 j (by decide) (by decide) (by decide) (by decide), show σ10 28 = σ 28 from funext fun j => fk 28 j (by decide) (by decide) (by decide) (by decide), show σ10 29 = σ 29 from funext fun j => fk 29 j (by decide) (by decide) (by decide) (by decide)]
      refine sw_callV k_X8_shift rfl cV_X8_plans ml_X8_125 ⟨by decide, by decide⟩ 26 rfl rfl [.inl q, .inl 0] [] rfl rfl (Nat.le_of_ble_eq_true rfl) 44 rfl (sp_plans σ10 hg (by rw [e26]; exact hz) (by rw [e26]; exact hD) (by rw [e26]; exact hV) (by rw [e26]; exact hA) lim (fun j hj => by rw [elm]; rw [e26] at hj; exact hl j hj) (fun x x1 x2 => by rw [e26] at x2; exact hL x x1 x2) q 0 (by rw [e26]; omega) (by rw [e26]; omega)) (fun r12 σ13 hq14 => ?_)
      obtain ⟨fk2, hg2, m2, rfl, o1, o2, o3, o4⟩ := hq14
      rw [e26] at o2 o3
      have hi2 : sw_isn lim (σ 26 0) (σ 26 1) (σ 26 2) q 0 m2 := ⟨o1, o2, o3⟩
      have e12 := sw_isn_rev hA.1 (by omega) (by omega) hi1 hi2
      subst e12
      refine sw_blk k_X8_shift 14 64 [(7, .inl (m1 : Int)), (6, .inl (m1 : Int)), (5, .inl (((n + c) - 1) / c)), (0, .inr (.inr 26)), (1, .inl q), (2, .inl n), (3, .inl c), (4, .inl b)] [.inl (((((n + c) - 1) / c) * ((2 * b) + (m1 : Int))) + (((((n + c) - 1) / c) - 1) * (m1 : Int)))] σ13 rfl ?_
      refine sw_ireturn k_X8_shift rfl rfl ?_
      exact Or.inr ⟨by omega, (fun i j i1 i2 i3 i4 => (fk2 i j i1 i2 i3 i4).trans (fk i j i1 i2 i3 i4)), hg2, m1, rfl, hi1⟩
    · refine sw_blk k_X8_shift 0 15 [(0, .inr (.inr 26)), (1, .inl q), (2, .inl n), (3, .inl c), (4, .inl b)] [.inl 0] σ rfl ?_
      refine sw_if_ne k_X8_shift rfl (by decide) 21 18 (by decide) rfl (fun c => absurd (by decide) c) (fun _ => ?_)
      refine sw_blk k_X8_shift 1 20 [(0, .inr (.inr 26)), (1, .inl q), (2, .inl n), (3, .inl c), (4, .inl b)] [.inl (-2)] σ rfl ?_
      refine sw_ireturn k_X8_shift rfl rfl ?_
      exact Or.inl ⟨by omega, rfl, rfl⟩
  · have p1 : ¬ (0 ≤ q ∧ q ≤ (σ 26 0)) := p1
    refine sw_blk k_X8_shift 0 5 [(0, .inr (.inr 26)), (1, .inl q), (2, .inl n), (3, .inl c), (4, .inl b)] [.inl 0] σ rfl ?_
    refine sw_if_eq k_X8_shift rfl (by decide) 18 8 (by decide) rfl (fun _ => ?_) (fun c => absurd (by decide) c)
    refine sw_blk k_X8_shift 1 20 [(0, .inr (.inr 26)), (1, .inl q), (2, .inl n), (3, .inl c), (4, .inl b)] [.inl (-2)] σ rfl ?_
    refine sw_ireturn k_X8_shift rfl rfl ?_
    exact Or.inl ⟨by omega, rfl, rfl⟩
theorem lp_mboth (σ : sw_S) (n0 c b T m : Int) (hT : 0 ≤ T ∧ T ≤ 600) (Q : Option sw_Vl → sw_S → Prop) (hQ : Q (some (.inl (b + T * (m + b)))) σ) : ∀ (n : Nat) (k : Nat) (s : Int), (k : Int) ≤ T → s = b + (k : Int) * (m + b) → 601 - k < n → sw_E sw_ly sw_rho M_X8_both 49 [(8, .inl (k : Int)), (7, .inl s), (6, .inl m), (5, .inl m), (4, .inl T), (0, .inr (.inr 26)), (1, .inl n0), (2, .inl c), (3, .inl b)] [] σ Q := by
  intro n
  induction n with
  | zero =>
    intro k s hk hs hn
    omega
  | succ n ih =>
    intro k s hk hs hn
    refine sw_blk k_X8_both 2 53 [(8, .inl (k : Int)), (7, .inl s), (6, .inl m), (5, .inl m), (4, .inl T), (0, .inr (.inr 26)), (1, .inl n0), (2, .inl c), (3, .inl b)] [.inl T, .inl (k : Int)] σ rfl ?_
    refine sw_icmp_ge k_X8_both rfl (by omega) (by omega) 83 56 (by decide) rfl (fun c1 => ?_) (fun c1 => ?_)
    · refine sw_blk k_X8_both 1 85 [(8, .inl (k : Int)), (7, .inl s), (6, .inl m), (5, .inl m), (4, .inl T), (0, .inr (.inr 26)), (1, .inl n0), (2, .inl c), (3, .inl b)] [.inl s] σ rfl ?_
      refine sw_ireturn k_X8_both rfl rfl ?_
      have e : (k : Int) = T := by omega
      rw [hs, e]
      exact hQ
    · refine sw_blk k_X8_both 4 62 [(8, .inl (k : Int)), (7, .inl s), (6, .inl m), (5, .inl m), (4, .inl T), (0, .inr (.inr 26)), (1, .inl n0), (2, .inl c), (3, .inl b)] [.inl 2, .inl (k : Int), .inl b, .inl s] σ rfl ?_
      refine sw_irem k_X8_both rfl (by omega) (by decide) (by omega) (by decide) 63 rfl ?_
      refine sw_if_ne k_X8_both rfl (by omega) 71 66 (by decide) rfl (fun c2 => ?_) (fun c2 => ?_)
      · refine sw_blk k_X8_both 6 49 [(8, .inl ((k : Int) + 1)), (7, .inl (s + (b + m))), (6, .inl m), (5, .inl m), (4, .inl T), (0, .inr (.inr 26)), (1, .inl n0), (2, .inl c), (3, .inl b)] [] σ rfl ?_
        refine ih (k + 1) _ (by omega) ?_ (by omega)
        rw [hs, show ((k + 1 : Nat) : Int) = (k : Int) + 1 by omega, Int.add_mul, Int.one_mul]
        omega
      · refine sw_blk k_X8_both 7 49 [(8, .inl ((k : Int) + 1)), (7, .inl (s + (b + m))), (6, .inl m), (5, .inl m), (4, .inl T), (0, .inr (.inr 26)), (1, .inl n0), (2, .inl c), (3, .inl b)] [] σ rfl ?_
        refine ih (k + 1) _ (by omega) ?_ (by omega)
        rw [hs, show ((k + 1 : Nat) : Int) = (k : Int) + 1 by omega, Int.add_mul, Int.one_mul]
        omega
theorem mm_both (σ : sw_S) (hσ : sw_gs σ) (hz : 0 ≤ σ 26 3 ∧ σ 26 3 ≤ 6) (hD : 10 ≤ σ 26 0 ∧ σ 26 0 ≤ 400) (hV : 1 ≤ σ 26 1 ∧ σ 26 1 ≤ 20) (hA : 1 ≤ σ 26 2 ∧ σ 26 2 ≤ 5) (lim : Nat → Int) (hl : ∀ j : Nat, (j : Int) ≤ σ 26 0 → lim j = sw_lm σ j) (hL : ∀ x : Int, 0 ≤ x → x ≤ σ 26 0 → 1 ≤ lim x.toNat) (n c b : Int) (gn : sw_g n) (gc : sw_g c) (gb : sw_g b) : sw_Con sw_ly sw_rho M_X8_both [.inr (.inr 26), .inl n, .inl c, .inl b] σ (fun r σ' => (¬ ((1 ≤ n ∧ n ≤ 500) ∧ (1 ≤ c ∧ c ≤ 50) ∧ (0 ≤ b ∧ b ≤ 100)) ∧ r = some (.inl (-2)) ∧ σ = σ') ∨ (((1 ≤ n ∧ n ≤ 500) ∧ (1 ≤ c ∧ c ≤ 50) ∧ (0 ≤ b ∧ b ≤ 100)) ∧ (∀ i j, i ≠ 35 → i ≠ 36 → i ≠ 37 → i ≠ 38 → σ' i j = σ i j) ∧ sw_gs σ' ∧ ∃ m : Nat, r = some (.inl (b + ((n + c - 1) / c) * (m + b))) ∧ sw_isn lim (σ 26 0) (σ 26 1) (σ 26 2) 0 (σ 26 0) m)) := by
  refine sw_con (by decide) (Nat.le_of_ble_eq_true rfl) ?_
  refine sw_blk k_X8_both 3 3 [(0, .inr (.inr 26)), (1, .inl n), (2, .inl c), (3, .inl b)] [.inl b, .inl c, .inl n] σ rfl ?_
  refine sw_callS k_X8_both rfl cS_X8_areMen ml_X8_188 ⟨by decide, by decide⟩ [.inl n, .inl c, .inl b] [] rfl rfl (Nat.le_of_ble_eq_true rfl) 6 rfl (sp_mMen σ n c b (by omega) (by omega) (by omega)) (fun r2 σ3 hq4 => ?_)
  obtain ⟨rfl, ⟨p1, rfl⟩ | ⟨p1, rfl⟩⟩ := hq4
  · refine sw_blk k_X8_both 0 6 [(0, .inr (.inr 26)), (1, .inl n), (2, .inl c), (3, .inl b)] [.inl 1] σ rfl ?_
    refine sw_if_ne k_X8_both rfl (by decide) 12 9 (by decide) rfl (fun _ => ?_) (fun c => absurd c (by decide))
    refine sw_blk k_X8_both 6 18 [(0, .inr (.inr 26)), (1, .inl n), (2, .inl c), (3, .inl b)] [.inl c, .inl ((n + c) - 1)] σ rfl ?_
    refine sw_idiv k_X8_both rfl (by omega) (by omega) (by omega) (by omega) 19 rfl ?_
    refine sw_blk k_X8_both 5 27 [(4, .inl (((n + c) - 1) / c)), (0, .inr (.inr 26)), (1, .inl n), (2, .inl c), (3, .inl b)] [.inl (σ 26 0), .inl 0, .inr (.inr 26)] σ rfl ?_
    refine sw_callV k_X8_both rfl cV_X8_plans ml_X8_125 ⟨by decide, by decide⟩ 26 rfl rfl [.inl 0, .inl (σ 26 0)] [] rfl rfl (Nat.le_of_ble_eq_true rfl) 30 rfl (sp_plans σ hσ hz hD hV hA lim hl hL 0 (σ 26 0) (by omega) (by omega)) (fun r5 σ6 hq7 => ?_)
    obtain ⟨fk, hg, m1, rfl, n1, n2, n3, n4⟩ := hq7
    have hi1 : sw_isn lim (σ 26 0) (σ 26 1) (σ 26 2) 0 (σ 26 0) m1 := ⟨n1, n2, n3⟩
    refine sw_blk k_X8_both 5 38 [(5, .inl (m1 : Int)), (4, .inl (((n + c) - 1) / c)), (0, .inr (.inr 26)), (1, .inl n), (2, .inl c), (3, .inl b)] [.inl 0, .inl (σ6 26 0), .inr (.inr 26)] σ6 rfl ?_
    have e26 : σ6 26 = σ 26 := funext fun j => fk 26 j (by decide) (by decide) (by decide) (by decide)
    have elm : ∀ j, sw_lm σ6 j = sw_lm σ j := fun j => by
      unfold sw_lm
      rw [e26, show σ6 27 = σ 27 from funext fun j => fk 27 j (by decide) (by decide) (by decide) (by decide), show σ6 28 = σ 28 from funext fun j => fk 28 j (by decide) (by decide) (by decide) (by decide), show σ6 29 = σ 29 from funext fun j => fk 29 j (by decide) (by decide) (by decide) (by decide)]
    refine sw_callV k_X8_both rfl cV_X8_plans ml_X8_125 ⟨by decide, by decide⟩ 26 rfl rfl [.inl (σ6 26 0), .inl 0] [] rfl rfl (Nat.le_of_ble_eq_true rfl) 41 rfl (sp_plans σ6 hg (by rw [e26]; exact hz) (by rw [e26]; exact hD) (by rw [e26]; exact hV) (by rw [e26]; exact hA) lim (fun j hj => by rw [elm]; rw [e26] at hj; exact hl j hj) (fun x x1 x2 => by rw [e26] at x2; exact hL x x1 x2) (σ6 26 0) 0 (by rw [e26]; omega) (by rw [e26]; omega)) (fun r8 σ9 hq10 => ?_)
    obtain ⟨fk2, hg2, m2, rfl, o1, o2, o3, o4⟩ := hq10
    rw [e26] at o2 o3
    have hi2 : sw_isn lim (σ 26 0) (σ 26 1) (σ 26 2) (σ 26 0) 0 m2 := ⟨o1, o2, o3⟩
    have e12 := sw_isn_rev hA.1 (by omega) (by omega) hi1 hi2
    subst e12
    refine sw_blk k_X8_both 5 49 [(8, .inl 0), (7, .inl b), (6, .inl (m1 : Int)), (5, .inl (m1 : Int)), (4, .inl (((n + c) - 1) / c)), (0, .inr (.inr 26)), (1, .inl n), (2, .inl c), (3, .inl b)] [] σ9 rfl ?_
    exact lp_mboth σ9 n c b ((n + c - 1) / c) (m1 : Int) (sw_trips (by omega) (by omega)) _ (Or.inr ⟨by omega, (fun i j i1 i2 i3 i4 => (fk2 i j i1 i2 i3 i4).trans (fk i j i1 i2 i3 i4)), hg2, m1, rfl, hi1⟩) 602 0 b (sw_trips (by omega) (by omega)).1 (by omega) (by omega)
  · refine sw_blk k_X8_both 0 6 [(0, .inr (.inr 26)), (1, .inl n), (2, .inl c), (3, .inl b)] [.inl 0] σ rfl ?_
    refine sw_if_ne k_X8_both rfl (by decide) 12 9 (by decide) rfl (fun c => absurd (by decide) c) (fun _ => ?_)
    refine sw_blk k_X8_both 1 11 [(0, .inr (.inr 26)), (1, .inl n), (2, .inl c), (3, .inl b)] [.inl (-2)] σ rfl ?_
    refine sw_ireturn k_X8_both rfl rfl ?_
    exact Or.inl ⟨by omega, rfl, rfl⟩
