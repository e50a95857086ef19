theorem lp_mSum (σ : sw_S) (hσ : sw_gs σ) (hb : ∀ j, j < 60 → 0 ≤ σ 40 j ∧ σ 40 j ≤ 99) (a w : Int) (ha : 0 ≤ a ∧ a ≤ 200) (hw : 0 ≤ w ∧ w ≤ 60) (Q : Option sw_Vl → sw_S → Prop) (hQ : Q (some (.inl (sw_sm (σ 40) a.toNat w.toNat))) σ) : ∀ (n : Nat) (t : Nat) (lay sm : Int), lay = a + t → (t : Int) ≤ w → sm = sw_sm (σ 40) a.toNat t → 61 - t < n → sw_E sw_ly sw_rho M_X8_sumOf 5 [(4, .inl lay), (3, .inl sm), (0, .inr (.inr 26)), (1, .inl a), (2, .inl w)] [] σ Q := by
  intro n
  induction n with
  | zero =>
    intro t lay sm hl ht hs hn
    omega
  | succ n ih =>
    intro t lay sm hl ht hs hn
    refine sw_blk k_X8_sumOf 4 10 [(4, .inl lay), (3, .inl sm), (0, .inr (.inr 26)), (1, .inl a), (2, .inl w)] [.inl (a + w), .inl lay] σ rfl ?_
    refine sw_icmp_ge k_X8_sumOf rfl (by omega) (by omega) 36 13 (by decide) rfl (fun c1 => ?_) (fun c1 => ?_)
    · refine sw_blk k_X8_sumOf 1 37 [(4, .inl lay), (3, .inl sm), (0, .inr (.inr 26)), (1, .inl a), (2, .inl w)] [.inl sm] σ rfl ?_
      refine sw_ireturn k_X8_sumOf rfl rfl ?_
      have e : sw_sm (σ 40) a.toNat w.toNat = sm := by
        rw [hs]
        rcases Int.lt_or_le (t : Int) w with z | z
        · have := sw_sm_out (σ 40) (a := a.toNat) (t := t) (by omega) (w.toNat - t)
          rw [show t + (w.toNat - t) = w.toNat by omega] at this
          exact this
        · rw [show w.toNat = t by omega]
      rw [← e]
      exact hQ
    · refine sw_blk k_X8_sumOf 2 17 [(4, .inl lay), (3, .inl sm), (0, .inr (.inr 26)), (1, .inl a), (2, .inl w)] [.inl 60, .inl lay] σ rfl ?_
      refine sw_icmp_ge k_X8_sumOf rfl (by omega) (by decide) 36 20 (by decide) rfl (fun c2 => ?_) (fun c2 => ?_)
      · refine sw_blk k_X8_sumOf 1 37 [(4, .inl lay), (3, .inl sm), (0, .inr (.inr 26)), (1, .inl a), (2, .inl w)] [.inl sm] σ rfl ?_
        refine sw_ireturn k_X8_sumOf rfl rfl ?_
        have e : sw_sm (σ 40) a.toNat w.toNat = sm := by
          rw [hs]
          rcases Int.lt_or_le (t : Int) w with z | z
          · have := sw_sm_out (σ 40) (a := a.toNat) (t := t) (by omega) (w.toNat - t)
            rw [show t + (w.toNat - t) = w.toNat by omega] at this
            exact this
          · rw [show w.toNat = t by omega]
        rw [← e]
        exact hQ
      · refine sw_blk k_X8_sumOf 4 27 [(4, .inl lay), (3, .inl sm), (0, .inr (.inr 26)), (1, .inl a), (2, .inl w)] [.inl lay, .inr (.inr 40), .inl sm] σ rfl ?_
        refine sw_iald k_X8_sumOf rfl (i := 40) (n := 60) rfl (by decide) (by omega) (by omega) 28 rfl ?_
        refine sw_blk k_X8_sumOf 4 5 [(4, .inl (lay + 1)), (3, .inl (sm + (σ 40 lay.toNat))), (0, .inr (.inr 26)), (1, .inl a), (2, .inl w)] [] σ rfl ?_
        exact ih (t + 1) _ _ (by omega) (by omega) (by rw [sw_sm, if_pos (by omega), hs, show a.toNat + t = lay.toNat by omega]) (by omega)
theorem sp_mSum (σ : sw_S) (hσ : sw_gs σ) (hb : ∀ j, j < 60 → 0 ≤ σ 40 j ∧ σ 40 j ≤ 99) (a w : Int) (ha : 0 ≤ a ∧ a ≤ 200) (hw : 0 ≤ w ∧ w ≤ 60) : sw_Con sw_ly sw_rho M_X8_sumOf [.inr (.inr 26), .inl a, .inl w] σ (fun r σ' => σ = σ' ∧ r = some (.inl (sw_sm (σ 40) a.toNat w.toNat))) := by
  refine sw_con (by decide) (Nat.le_of_ble_eq_true rfl) ?_
  refine sw_blk k_X8_sumOf 4 5 [(4, .inl a), (3, .inl 0), (0, .inr (.inr 26)), (1, .inl a), (2, .inl w)] [] σ rfl ?_
  exact lp_mSum σ hσ hb a w ha hw _ ⟨rfl, rfl⟩ 62 0 _ _ (by omega) (by omega) rfl (by omega)
theorem lp_mWorst (σ : sw_S) (hσ : sw_gs σ) (hb : ∀ j, j < 60 → 0 ≤ σ 40 j ∧ σ 40 j ≤ 99) (w k : Int) (hw : 1 ≤ w ∧ w ≤ 60) (hk : 0 ≤ k ∧ k ≤ 100) (Q : Option sw_Vl → sw_S → Prop) (hQ : ∀ x, sw_wf (fun i : Int => sw_sm (σ 40) (i + k).toNat w.toNat) w x → Q (some (.inl x)) σ) : ∀ (n : Nat) (lay gr x : Int), 0 ≤ lay → lay + w ≤ 61 → (lay = 0 ∧ x = 0 ∧ gr = -1 ∨ (0 ≤ x ∧ x < lay ∧ gr = sw_sm (σ 40) (x + k).toNat w.toNat)) → (∀ i : Int, 0 ≤ i → i < lay → sw_sm (σ 40) (i + k).toNat w.toNat ≤ gr) → (∀ i : Int, 0 ≤ i → i < x → sw_sm (σ 40) (i + k).toNat w.toNat < gr) → (-1 ≤ gr ∧ gr ≤ 5940) → (62 - lay).toNat < n → sw_E sw_ly sw_rho M_X8_worstFrom 8 [(5, .inl lay), (4, .inl gr), (3, .inl x), (0, .inr (.inr 26)), (1, .inl w), (2, .inl k)] [] σ Q := by
  intro n
  induction n with
  | zero =>
    intro lay gr x hl hl2 hx h3 h4 gg hn
    omega
  | succ n ih =>
    intro lay gr x hl hl2 hx h3 h4 gg hn
    refine sw_blk k_X8_worstFrom 4 14 [(5, .inl lay), (4, .inl gr), (3, .inl x), (0, .inr (.inr 26)), (1, .inl w), (2, .inl k)] [.inl 60, .inl (lay + w)] σ rfl ?_
    refine sw_icmp_gt k_X8_worstFrom rfl (by omega) (by decide) 48 17 (by decide) rfl (fun c1 => ?_) (fun c1 => ?_)
    · refine sw_blk k_X8_worstFrom 1 49 [(5, .inl lay), (4, .inl gr), (3, .inl x), (0, .inr (.inr 26)), (1, .inl w), (2, .inl k)] [.inl x] σ rfl ?_
      refine sw_ireturn k_X8_worstFrom rfl rfl ?_
      rcases hx with ⟨z1, z2, z3⟩ | ⟨z1, z2, z3⟩
      · omega
      refine hQ x ⟨z1, by omega, fun i i1 i2 => ?_, fun i i1 i2 => ?_⟩
      · have := h3 i i1 (by omega); rw [z3] at this; exact this
      · have := h4 i i1 i2; rw [z3] at this; exact this
    · refine sw_blk k_X8_worstFrom 5 23 [(5, .inl lay), (4, .inl gr), (3, .inl x), (0, .inr (.inr 26)), (1, .inl w), (2, .inl k)] [.inl w, .inl (lay + k), .inr (.inr 26)] σ rfl ?_
      refine sw_callV k_X8_worstFrom rfl cV_X8_sumOf ml_X8_182 ⟨by decide, by decide⟩ 26 rfl rfl [.inl (lay + k), .inl w] [] rfl rfl (Nat.le_of_ble_eq_true rfl) 26 rfl (sp_mSum σ hσ hb (lay + k) w (by omega) (by omega)) (fun r2 σ3 hq4 => ?_)
      obtain ⟨rfl, rfl⟩ := hq4
      have hbb := sw_sm_b hb ((lay + k) : Int).toNat (w : Int).toNat
      refine sw_blk k_X8_worstFrom 3 32 [(6, .inl (sw_sm (σ 40) (lay + k).toNat w.toNat)), (5, .inl lay), (4, .inl gr), (3, .inl x), (0, .inr (.inr 26)), (1, .inl w), (2, .inl k)] [.inl gr, .inl (sw_sm (σ 40) (lay + k).toNat w.toNat)] σ rfl ?_
      refine sw_icmp_le k_X8_worstFrom rfl (by omega) (by omega) 42 35 (by decide) rfl (fun c5 => ?_) (fun c5 => ?_)
      · refine sw_blk k_X8_worstFrom 2 8 [(5, .inl (lay + 1)), (6, .inl (sw_sm (σ 40) (lay + k).toNat w.toNat)), (4, .inl gr), (3, .inl x), (0, .inr (.inr 26)), (1, .inl w), (2, .inl k)] [] σ rfl ?_
        refine sw_Lsub [(5, .inl (lay + 1)), (4, .inl gr), (3, .inl x), (0, .inr (.inr 26)), (1, .inl w), (2, .inl k)] [0, 2, 3, 4, 5, 6] rfl ?_
        exact ih (lay + 1) gr x (by omega) (by omega) (by rcases hx with ⟨z1, z2, z3⟩ | ⟨z1, z2, z3⟩; omega; exact Or.inr ⟨z1, by omega, z3⟩) (fun i i1 i2 => by rcases Int.lt_or_le i lay with z | z; exact h3 i i1 z; (rw [show i = lay by omega]; omega)) h4 gg (by omega)
      · refine sw_blk k_X8_worstFrom 6 8 [(5, .inl (lay + 1)), (3, .inl lay), (4, .inl (sw_sm (σ 40) (lay + k).toNat w.toNat)), (6, .inl (sw_sm (σ 40) (lay + k).toNat w.toNat)), (0, .inr (.inr 26)), (1, .inl w), (2, .inl k)] [] σ rfl ?_
        refine sw_Lsub [(5, .inl (lay + 1)), (4, .inl (sw_sm (σ 40) (lay + k).toNat w.toNat)), (3, .inl lay), (0, .inr (.inr 26)), (1, .inl w), (2, .inl k)] [0, 2, 1, 4, 5, 6] rfl ?_
        exact ih (lay + 1) _ lay (by omega) (by omega) (Or.inr ⟨by omega, by omega, rfl⟩) (fun i i1 i2 => by rcases Int.lt_or_le i lay with z | z; (have := h3 i i1 z; omega); (rw [show i = lay by omega]; omega)) (fun i i1 i2 => by have := h3 i i1 i2; omega) (by omega) (by omega)
theorem sp_mWorst (σ : sw_S) (hσ : sw_gs σ) (hb : ∀ j, j < 60 → 0 ≤ σ 40 j ∧ σ 40 j ≤ 99) (w k : Int) (hw : 1 ≤ w ∧ w ≤ 60) (hk : 0 ≤ k ∧ k ≤ 100) : sw_Con sw_ly sw_rho M_X8_worstFrom [.inr (.inr 26), .inl w, .inl k] σ (fun r σ' => σ = σ' ∧ ∃ x : Int, r = some (.inl x) ∧ sw_wf (fun i : Int => sw_sm (σ 40) (i + k).toNat w.toNat) w x) := by
  refine sw_con (by decide) (Nat.le_of_ble_eq_true rfl) ?_
  refine sw_blk k_X8_worstFrom 6 8 [(5, .inl 0), (4, .inl (-1)), (3, .inl 0), (0, .inr (.inr 26)), (1, .inl w), (2, .inl k)] [] σ rfl ?_
  exact lp_mWorst σ hσ hb w k hw hk _ (fun x hx => ⟨rfl, x, rfl, hx⟩) 63 0 _ 0 (by omega) (by omega) (Or.inl ⟨rfl, rfl, rfl⟩) (fun i i1 i2 => by omega) (fun i i1 i2 => by omega) (by omega) (by omega)
theorem mm_worstAt (σ : sw_S) (hσ : sw_gs σ) (hb : ∀ j, j < 60 → 0 ≤ σ 40 j ∧ σ 40 j ≤ 99) (w : Int) (gw : sw_g w) : sw_Con sw_ly sw_rho M_X8_worstAt [.inr (.inr 26), .inl w] σ (fun r σ' => σ = σ' ∧ (¬ (1 ≤ w ∧ w ≤ 60) ∧ r = some (.inl (-2)) ∨ (1 ≤ w ∧ w ≤ 60) ∧ ∃ x : Int, r = some (.inl x) ∧ sw_wf (fun i : Int => sw_sm (σ 40) (i + 0).toNat w.toNat) w x)) := by
  refine sw_con (by decide) (Nat.le_of_ble_eq_true rfl) ?_
  refine sw_blk k_X8_worstAt 3 4 [(0, .inr (.inr 26)), (1, .inl w)] [.inl 60, .inl 1, .inl w] σ rfl ?_
  refine sw_callS k_X8_worstAt rfl cS_X8_in ml_X8_87 ⟨by decide, by decide⟩ [.inl w, .inl 1, .inl 60] [] rfl rfl (Nat.le_of_ble_eq_true rfl) 7 rfl (sp_in σ w 1 60 (by omega) (by decide) (by decide)) (fun r2 σ3 hq4 => ?_)
  obtain ⟨rfl, ⟨p1, rfl⟩ | ⟨p1, rfl⟩⟩ := hq4
  · refine sw_blk k_X8_worstAt 0 7 [(0, .inr (.inr 26)), (1, .inl w)] [.inl 1] σ rfl ?_
    refine sw_if_eq k_X8_worstAt rfl (by decide) 19 10 (by decide) rfl (fun c => absurd c (by decide)) (fun _ => ?_)
    refine sw_blk k_X8_worstAt 3 13 [(0, .inr (.inr 26)), (1, .inl w)] [.inl 0, .inl w, .inr (.inr 26)] σ rfl ?_
    refine sw_callV k_X8_worstAt rfl cV_X8_worstFrom ml_X8_185 ⟨by decide, by decide⟩ 26 rfl rfl [.inl w, .inl 0] [] rfl rfl (Nat.le_of_ble_eq_true rfl) 16 rfl (sp_mWorst σ hσ hb w 0 (by omega) (by omega)) (fun r5 σ6 hq7 => ?_)
    obtain ⟨rfl, x, rfl, hx⟩ := hq7
    have hx1 := hx.1
    have hx2 := hx.2.1
    refine sw_blk k_X8_worstAt 1 21 [(0, .inr (.inr 26)), (1, .inl w)] [.inl x] σ rfl ?_
    refine sw_ireturn k_X8_worstAt rfl rfl ?_
    exact ⟨rfl, Or.inr ⟨by omega, x, rfl, hx⟩⟩
  · refine sw_blk k_X8_worstAt 0 7 [(0, .inr (.inr 26)), (1, .inl w)] [.inl 0] σ rfl ?_
    refine sw_if_eq k_X8_worstAt rfl (by decide) 19 10 (by decide) rfl (fun _ => ?_) (fun c => absurd (by decide) c)
    refine sw_blk k_X8_worstAt 1 21 [(0, .inr (.inr 26)), (1, .inl w)] [.inl (-2)] σ rfl ?_
    refine sw_ireturn k_X8_worstAt rfl rfl ?_
    exact ⟨rfl, Or.inl ⟨by omega, rfl⟩⟩
theorem mm_worst (σ : sw_S) (hσ : sw_gs σ) (hb : ∀ j, j < 60 → 0 ≤ σ 40 j ∧ σ 40 j ≤ 99) (w : Int) (gw : sw_g w) : sw_Con sw_ly sw_rho M_X8_worst [.inr (.inr 26), .inl w] σ (fun r σ' => σ = σ' ∧ (¬ (1 ≤ w ∧ w ≤ 60) ∧ r = some (.inl (-2)) ∨ (1 ≤ w ∧ w ≤ 60) ∧ ∃ x : Int, r = some (.inl (sw_sm (σ 40) x.toNat w.toNat)) ∧ sw_wf (fun i : Int => sw_sm (σ 40) (i + 0).toNat w.toNat) w x)) := by
  refine sw_con (by decide) (Nat.le_of_ble_eq_true rfl) ?_
  refine sw_blk k_X8_worst 3 4 [(0, .inr (.inr 26)), (1, .inl w)] [.inl 60, .inl 1, .inl w] σ rfl ?_
  refine sw_callS k_X8_worst rfl cS_X8_in ml_X8_87 ⟨by decide, by decide⟩ [.inl w, .inl 1, .inl 60] [] rfl rfl (Nat.le_of_ble_eq_true rfl) 7 rfl (sp_in σ w 1 60 (by omega) (by decide) (by decide)) (fun r2 σ3 hq4 => ?_)
  obtain ⟨rfl, ⟨p1, rfl⟩ | ⟨p1, rfl⟩⟩ := hq4
  · refine sw_blk k_X8_worst 0 7 [(0, .inr (.inr 26)), (1, .inl w)] [.inl 1] σ rfl ?_
    refine sw_if_eq k_X8_worst rfl (by decide) 24 10 (by decide) rfl (fun c => absurd c (by decide)) (fun _ => ?_)
    refine sw_blk k_X8_worst 4 14 [(0, .inr (.inr 26)), (1, .inl w)] [.inl 0, .inl w, .inr (.inr 26), .inr (.inr 26)] σ rfl ?_
    refine sw_callV k_X8_worst rfl cV_X8_worstFrom ml_X8_185 ⟨by decide, by decide⟩ 26 rfl rfl [.inl w, .inl 0] [.inr (.inr 26)] rfl rfl (Nat.le_of_ble_eq_true rfl) 17 rfl (sp_mWorst σ hσ hb w 0 (by omega) (by omega)) (fun r5 σ6 hq7 => ?_)
    obtain ⟨rfl, x, rfl, hx⟩ := hq7
    have hx1 := hx.1
    have hx2 := hx.2.1
    refine sw_blk k_X8_worst 1 18 [(0, .inr (.inr 26)), (1, .inl w)] [.inl w, .inl x, .inr (.inr 26)] σ rfl ?_
    refine sw_callV k_X8_worst rfl cV_X8_sumOf ml_X8_182 ⟨by decide, by decide⟩ 26 rfl rfl [.inl x, .inl w] [] rfl rfl (Nat.le_of_ble_eq_true rfl) 21 rfl (sp_mSum σ hσ hb x w (by omega) (by omega)) (fun r8 σ9 hq10 => ?_)
    obtain ⟨rfl, rfl⟩ := hq10
    have hbb := sw_sm_b hb (x : Int).toNat (w : Int).toNat
    refine sw_blk k_X8_worst 1 26 [(0, .inr (.inr 26)), (1, .inl w)] [.inl (sw_sm (σ 40) x.toNat w.toNat)] σ rfl ?_
    refine sw_ireturn k_X8_worst rfl rfl ?_
    exact ⟨rfl, Or.inr ⟨by omega, x, rfl, hx⟩⟩
  · refine sw_blk k_X8_worst 0 7 [(0, .inr (.inr 26)), (1, .inl w)] [.inl 0] σ rfl ?_
    refine sw_if_eq k_X8_worst rfl (by decide) 24 10 (by decide) rfl (fun _ => ?_) (fun c => absurd (by decide) c)
    refine sw_blk k_X8_worst 1 26 [(0, .inr (.inr 26)), (1, .inl w)] [.inl (-2)] σ rfl ?_
    refine sw_ireturn k_X8_worst rfl rfl ?_
    exact ⟨rfl, Or.inl ⟨by omega, rfl⟩⟩
theorem mm_broken (σ : sw_S) (hσ : sw_gs σ) (hb : ∀ j, j < 60 → 0 ≤ σ 40 j ∧ σ 40 j ≤ 99) (l k : Int) (gl : sw_g l) (gk : sw_g k) : sw_Con sw_ly sw_rho M_X8_broken [.inr (.inr 26), .inl l, .inl k] σ (fun r σ' => (¬ ((0 ≤ l ∧ l ≤ 59) ∧ (1 ≤ k ∧ k ≤ 99)) ∧ r = some (.inl (-2)) ∧ σ = σ') ∨ (((0 ≤ l ∧ l ≤ 59) ∧ (1 ≤ k ∧ k ≤ 99)) ∧ r = some (.inl (min (σ 40 l.toNat + k) 99)) ∧ (sw_u σ 40 l.toNat (min (σ 40 l.toNat + k) 99)) = σ')) := by
  refine sw_con (by decide) (Nat.le_of_ble_eq_true rfl) ?_
  refine sw_blk k_X8_broken 3 4 [(0, .inr (.inr 26)), (1, .inl l), (2, .inl k)] [.inl 59, .inl 0, .inl l] σ rfl ?_
  refine sw_callS k_X8_broken rfl cS_X8_in ml_X8_87 ⟨by decide, by decide⟩ [.inl l, .inl 0, .inl 59] [] rfl rfl (Nat.le_of_ble_eq_true rfl) 7 rfl (sp_in σ l 0 59 (by omega) (by decide) (by decide)) (fun r2 σ3 hq4 => ?_)
  obtain ⟨rfl, ⟨p1, rfl⟩ | ⟨p1, rfl⟩⟩ := hq4
  · refine sw_blk k_X8_broken 0 7 [(0, .inr (.inr 26)), (1, .inl l), (2, .inl k)] [.inl 1] σ rfl ?_
    refine sw_if_eq k_X8_broken rfl (by decide) 20 10 (by decide) rfl (fun c => absurd c (by decide)) (fun _ => ?_)
    refine sw_blk k_X8_broken 3 14 [(0, .inr (.inr 26)), (1, .inl l), (2, .inl k)] [.inl 99, .inl 1, .inl k] σ rfl ?_
    refine sw_callS k_X8_broken rfl cS_X8_in ml_X8_87 ⟨by decide, by decide⟩ [.inl k, .inl 1, .inl 99] [] rfl rfl (Nat.le_of_ble_eq_true rfl) 17 rfl (sp_in σ k 1 99 (by omega) (by decide) (by decide)) (fun r6 σ7 hq8 => ?_)
    obtain ⟨rfl, ⟨p5, rfl⟩ | ⟨p5, rfl⟩⟩ := hq8
    · refine sw_blk k_X8_broken 0 17 [(0, .inr (.inr 26)), (1, .inl l), (2, .inl k)] [.inl 1] σ rfl ?_
      refine sw_if_ne k_X8_broken rfl (by decide) 23 20 (by decide) rfl (fun _ => ?_) (fun c => absurd c (by decide))
      refine sw_blk k_X8_broken 6 33 [(0, .inr (.inr 26)), (1, .inl l), (2, .inl k)] [.inl l, .inr (.inr 40), .inl l, .inr (.inr 40)] σ rfl ?_
      refine sw_iald k_X8_broken rfl (i := 40) (n := 60) rfl (by decide) (by omega) (by omega) 34 rfl ?_
      refine sw_blk k_X8_broken 3 38 [(0, .inr (.inr 26)), (1, .inl l), (2, .inl k)] [.inl 99, .inl ((σ 40 l.toNat) + k), .inl l, .inr (.inr 40)] σ rfl ?_
      refine sw_icmp_le k_X8_broken rfl (by have := hb l.toNat (by omega); omega) (by decide) 46 41 (by decide) rfl (fun c9 => ?_) (fun c9 => ?_)
      · refine sw_blk k_X8_broken 3 51 [(0, .inr (.inr 26)), (1, .inl l), (2, .inl k)] [.inl l, .inr (.inr 40), .inl l, .inr (.inr 40)] σ rfl ?_
        refine sw_iald k_X8_broken rfl (i := 40) (n := 60) rfl (by decide) (by omega) (by omega) 52 rfl ?_
        refine sw_blk k_X8_broken 2 54 [(0, .inr (.inr 26)), (1, .inl l), (2, .inl k)] [.inl ((σ 40 l.toNat) + k), .inl l, .inr (.inr 40)] σ rfl ?_
        refine sw_iast k_X8_broken rfl (i := 40) (n := 60) rfl (by decide) (by omega) (by omega) 55 rfl ?_
        refine sw_blk k_X8_broken 3 60 [(0, .inr (.inr 26)), (1, .inl l), (2, .inl k)] [.inl l, .inr (.inr 40)] (sw_u σ 40 l.toNat ((σ 40 l.toNat) + k)) rfl ?_
        refine sw_iald k_X8_broken rfl (i := 40) (n := 60) rfl (by decide) (by omega) (by omega) 61 rfl ?_
        refine sw_blk k_X8_broken 0 61 [(0, .inr (.inr 26)), (1, .inl l), (2, .inl k)] [.inl ((sw_u σ 40 l.toNat ((σ 40 l.toNat) + k)) 40 l.toNat)] (sw_u σ 40 l.toNat ((σ 40 l.toNat) + k)) rfl ?_
        refine sw_ireturn k_X8_broken rfl rfl ?_
        have e : min (σ 40 l.toNat + k) 99 = ((σ 40 l.toNat) + k) := by omega
        rw [e]
        exact Or.inr ⟨by omega, congrArg (fun q : Int => some (Sum.inl q)) (sw_u_same _ _ _ _), rfl⟩
      · refine sw_blk k_X8_broken 2 54 [(0, .inr (.inr 26)), (1, .inl l), (2, .inl k)] [.inl 99, .inl l, .inr (.inr 40)] σ rfl ?_
        refine sw_iast k_X8_broken rfl (i := 40) (n := 60) rfl (by decide) (by omega) (by omega) 55 rfl ?_
        refine sw_blk k_X8_broken 3 60 [(0, .inr (.inr 26)), (1, .inl l), (2, .inl k)] [.inl l, .inr (.inr 40)] (sw_u σ 40 l.toNat 99) rfl ?_
        refine sw_iald k_X8_broken rfl (i := 40) (n := 60) rfl (by decide) (by omega) (by omega) 61 rfl ?_
        refine sw_blk k_X8_broken 0 61 [(0, .inr (.inr 26)), (1, .inl l), (2, .inl k)] [.inl ((sw_u σ 40 l.toNat 99) 40 l.toNat)] (sw_u σ 40 l.toNat 99) rfl ?_
        refine sw_ireturn k_X8_broken rfl rfl ?_
        have e : min (σ 40 l.toNat + k) 99 = 99 := by omega
        rw [e]
        exact Or.inr ⟨by omega, congrArg (fun q : Int => some (Sum.inl q)) (sw_u_same _ _ _ _), rfl⟩
    · refine sw_blk k_X8_broken 0 17 [(0, .inr (.inr 26)), (1, .inl l), (2, .inl k)] [.inl 0] σ rfl ?_
      refine sw_if_ne k_X8_broken rfl (by decide) 23 20 (by decide) rfl (fun c => absurd (by decide) c) (fun _ => ?_)
      refine sw_blk k_X8_broken 1 22 [(0, .inr (.inr 26)), (1, .inl l), (2, .inl k)] [.inl (-2)] σ rfl ?_
      refine sw_ireturn k_X8_broken rfl rfl ?_
      exact Or.inl ⟨by omega, rfl, rfl⟩
  · refine sw_blk k_X8_broken 0 7 [(0, .inr (.inr 26)), (1, .inl l), (2, .inl k)] [.inl 0] σ rfl ?_
    refine sw_if_eq k_X8_broken rfl (by decide) 20 10 (by decide) rfl (fun _ => ?_) (fun c => absurd (by decide) c)
    refine sw_blk k_X8_broken 1 22 [(0, .inr (.inr 26)), (1, .inl l), (2, .inl k)] [.inl (-2)] σ rfl ?_
    refine sw_ireturn k_X8_broken rfl rfl ?_
    exact Or.inl ⟨by omega, rfl, rfl⟩
theorem lp_mCut (σ : sw_S) (hσ : sw_gs σ) (hb : ∀ j, j < 60 → 0 ≤ σ 40 j ∧ σ 40 j ≤ 99) (k gone : Int) (hk : 1 ≤ k ∧ k ≤ 60) (Q : Option sw_Vl → sw_S → Prop) (hQ : Q (some (.inl gone)) (sw_pf σ 40 (fun j : Nat => if j + k.toNat < 60 then σ 40 (j + k.toNat) else 0) 60)) : ∀ (n : Nat) (i : Nat), i ≤ 60 → 61 - i < n → sw_E sw_ly sw_rho M_X8_cut 22 [(3, .inl (i : Int)), (2, .inl gone), (0, .inr (.inr 26)), (1, .inl k)] [] (sw_pf σ 40 (fun j : Nat => if j + k.toNat < 60 then σ 40 (j + k.toNat) else 0) i) Q := by
  intro n
  induction n with
  | zero =>
    intro i hi hn
    omega
  | succ n ih =>
    intro i hi hn
    refine sw_blk k_X8_cut 2 25 [(3, .inl (i : Int)), (2, .inl gone), (0, .inr (.inr 26)), (1, .inl k)] [.inl 60, .inl (i : Int)] (sw_pf σ 40 (fun j : Nat => if j + k.toNat < 60 then σ 40 (j + k.toNat) else 0) i) rfl ?_
    refine sw_icmp_ge k_X8_cut rfl (by omega) (by decide) 60 28 (by decide) rfl (fun c1 => ?_) (fun c1 => ?_)
    · refine sw_blk k_X8_cut 1 61 [(3, .inl (i : Int)), (2, .inl gone), (0, .inr (.inr 26)), (1, .inl k)] [.inl gone] (sw_pf σ 40 (fun j : Nat => if j + k.toNat < 60 then σ 40 (j + k.toNat) else 0) i) rfl ?_
      refine sw_ireturn k_X8_cut rfl rfl ?_
      have e : i = 60 := by omega
      subst e
      exact hQ
    · refine sw_blk k_X8_cut 7 38 [(3, .inl (i : Int)), (2, .inl gone), (0, .inr (.inr 26)), (1, .inl k)] [.inl 60, .inl ((i : Int) + k), .inl (i : Int), .inr (.inr 40)] (sw_pf σ 40 (fun j : Nat => if j + k.toNat < 60 then σ 40 (j + k.toNat) else 0) i) rfl ?_
      refine sw_icmp_ge k_X8_cut rfl (by omega) (by decide) 52 41 (by decide) rfl (fun c2 => ?_) (fun c2 => ?_)
      · refine sw_blk k_X8_cut 1 53 [(3, .inl (i : Int)), (2, .inl gone), (0, .inr (.inr 26)), (1, .inl k)] [.inl 0, .inl (i : Int), .inr (.inr 40)] (sw_pf σ 40 (fun j : Nat => if j + k.toNat < 60 then σ 40 (j + k.toNat) else 0) i) rfl ?_
        refine sw_iast k_X8_cut rfl (i := 40) (n := 60) rfl (by decide) (by omega) (by omega) 54 rfl ?_
        refine sw_blk k_X8_cut 2 22 [(3, .inl ((i : Int) + 1)), (2, .inl gone), (0, .inr (.inr 26)), (1, .inl k)] [] (sw_u (sw_pf σ 40 (fun j : Nat => if j + k.toNat < 60 then σ 40 (j + k.toNat) else 0) i) 40 i 0) rfl ?_
        rw [sw_pf_s σ 40 (fun j : Nat => if j + k.toNat < 60 then σ 40 (j + k.toNat) else 0) (i : Nat) (by first | (rw [if_neg (by omega)]; done) | (rw [if_pos (by omega), show ((i : Int) + k).toNat = i + k.toNat by omega]; exact sw_pf_out σ 40 _ (by omega)))]
        exact ih (i + 1) (by omega) (by omega)
      · refine sw_blk k_X8_cut 5 48 [(3, .inl (i : Int)), (2, .inl gone), (0, .inr (.inr 26)), (1, .inl k)] [.inl ((i : Int) + k), .inr (.inr 40), .inl (i : Int), .inr (.inr 40)] (sw_pf σ 40 (fun j : Nat => if j + k.toNat < 60 then σ 40 (j + k.toNat) else 0) i) rfl ?_
        refine sw_iald k_X8_cut rfl (i := 40) (n := 60) rfl (by decide) (by omega) (by omega) 49 rfl ?_
        refine sw_blk k_X8_cut 1 53 [(3, .inl (i : Int)), (2, .inl gone), (0, .inr (.inr 26)), (1, .inl k)] [.inl ((sw_pf σ 40 (fun j : Nat => if j + k.toNat < 60 then σ 40 (j + k.toNat) else 0) i) 40 (((i : Int) + k).toNat)), .inl (i : Int), .inr (.inr 40)] (sw_pf σ 40 (fun j : Nat => if j + k.toNat < 60 then σ 40 (j + k.toNat) else 0) i) rfl ?_
        refine sw_iast k_X8_cut rfl (i := 40) (n := 60) rfl (by decide) (by omega) (by omega) 54 rfl ?_
        refine sw_blk k_X8_cut 2 22 [(3, .inl ((i : Int) + 1)), (2, .inl gone), (0, .inr (.inr 26)), (1, .inl k)] [] (sw_u (sw_pf σ 40 (fun j : Nat => if j + k.toNat < 60 then σ 40 (j + k.toNat) else 0) i) 40 i ((sw_pf σ 40 (fun j : Nat => if j + k.toNat < 60 then σ 40 (j + k.toNat) else 0) i) 40 (((i : Int) + k).toNat))) rfl ?_
        rw [sw_pf_s σ 40 (fun j : Nat => if j + k.toNat < 60 then σ 40 (j + k.toNat) else 0) (i : Nat) (by first | (rw [if_neg (by omega)]; done) | (rw [if_pos (by omega), show ((i : Int) + k).toNat = i + k.toNat by omega]; exact sw_pf_out σ 40 _ (by omega)))]
        exact ih (i + 1) (by omega) (by omega)
theorem mm_cut (σ : sw_S) (hσ : sw_gs σ) (hb : ∀ j, j < 60 → 0 ≤ σ 40 j ∧ σ 40 j ≤ 99) (k : Int) (gk : sw_g k) : sw_Con sw_ly sw_rho M_X8_cut [.inr (.inr 26), .inl k] σ (fun r σ' => (¬ (1 ≤ k ∧ k ≤ 60) ∧ r = some (.inl (-2)) ∧ σ = σ') ∨ ((1 ≤ k ∧ k ≤ 60) ∧ r = some (.inl (sw_sm (σ 40) 0 k.toNat)) ∧ (sw_pf σ 40 (fun j : Nat => if j + k.toNat < 60 then σ 40 (j + k.toNat) else 0) 60) = σ')) := by
  refine sw_con (by decide) (Nat.le_of_ble_eq_true rfl) ?_
  refine sw_blk k_X8_cut 3 4 [(0, .inr (.inr 26)), (1, .inl k)] [.inl 60, .inl 1, .inl k] σ rfl ?_
  refine sw_callS k_X8_cut rfl cS_X8_in ml_X8_87 ⟨by decide, by decide⟩ [.inl k, .inl 1, .inl 60] [] rfl rfl (Nat.le_of_ble_eq_true rfl) 7 rfl (sp_in σ k 1 60 (by omega) (by decide) (by decide)) (fun r2 σ3 hq4 => ?_)
  obtain ⟨rfl, ⟨p1, rfl⟩ | ⟨p1, rfl⟩⟩ := hq4
  · refine sw_blk k_X8_cut 0 7 [(0, .inr (.inr 26)), (1, .inl k)] [.inl 1] σ rfl ?_
    refine sw_if_ne k_X8_cut rfl (by decide) 13 10 (by decide) rfl (fun _ => ?_) (fun c => absurd c (by decide))
    refine sw_blk k_X8_cut 3 16 [(0, .inr (.inr 26)), (1, .inl k)] [.inl k, .inl 0, .inr (.inr 26)] σ rfl ?_
    refine sw_callV k_X8_cut rfl cV_X8_sumOf ml_X8_182 ⟨by decide, by decide⟩ 26 rfl rfl [.inl 0, .inl k] [] rfl rfl (Nat.le_of_ble_eq_true rfl) 19 rfl (sp_mSum σ hσ hb 0 k (by omega) (by omega)) (fun r5 σ6 hq7 => ?_)
    obtain ⟨rfl, rfl⟩ := hq7
    have hbb := sw_sm_b hb (0 : Int).toNat (k : Int).toNat
    refine sw_blk k_X8_cut 3 22 [(3, .inl 0), (2, .inl (sw_sm (σ 40) 0 k.toNat)), (0, .inr (.inr 26)), (1, .inl k)] [] σ rfl ?_
    have h := lp_mCut σ hσ hb k (sw_sm (σ 40) 0 k.toNat) (by omega) (fun r σ' => (¬ (1 ≤ k ∧ k ≤ 60) ∧ r = some (.inl (-2)) ∧ σ = σ') ∨ ((1 ≤ k ∧ k ≤ 60) ∧ r = some (.inl (sw_sm (σ 40) 0 k.toNat)) ∧ (sw_pf σ 40 (fun j : Nat => if j + k.toNat < 60 then σ 40 (j + k.toNat) else 0) 60) = σ')) (Or.inr ⟨by omega, rfl, rfl⟩) 62 0 (by omega) (by omega)
    rw [sw_pf_0] at h
    exact h
  · refine sw_blk k_X8_cut 0 7 [(0, .inr (.inr 26)), (1, .inl k)] [.inl 0] σ rfl ?_
    refine sw_if_ne k_X8_cut rfl (by decide) 13 10 (by decide) rfl (fun c => absurd (by decide) c) (fun _ => ?_)
    refine sw_blk k_X8_cut 1 12 [(0, .inr (.inr 26)), (1, .inl k)] [.inl (-2)] σ rfl ?_
    refine sw_ireturn k_X8_cut rfl rfl ?_
    exact Or.inl ⟨by omega, rfl, rfl⟩
theorem sw_sm_far (f : Nat → Int) (a : Nat) (h : 60 ≤ a) : ∀ n : Nat, sw_sm f a n = 0 := by
  intro n
  have := sw_sm_out f (a := a) (t := 0) (by omega) n
  rw [Nat.zero_add] at this
  exact this
theorem lp_mMend (σ : sw_S) (hσ : sw_gs σ) (hb : ∀ j, j < 60 → 0 ≤ σ 40 j ∧ σ 40 j ≤ 99) (w m : Int) (hw : 1 ≤ w ∧ w ≤ 60) (hm : 0 ≤ m) (gm : sw_g m) (Q : Option sw_Vl → sw_S → Prop) (hQ : ∀ x : Int, ((0 ≤ x ∧ x ≤ 60) ∧ (∀ i : Int, 0 ≤ i → i + w ≤ 60 → sw_sm (σ 40) (i + x).toNat w.toNat ≤ m) ∧ ∀ k : Int, 0 ≤ k → k < x → ∃ i : Int, 0 ≤ i ∧ i + w ≤ 60 ∧ m < sw_sm (σ 40) (i + k).toNat w.toNat) → Q (some (.inl x)) σ) : ∀ (n : Nat) (k : Int), (0 ≤ k ∧ k ≤ 60) → (∀ j : Int, 0 ≤ j → j < k → ∃ i : Int, 0 ≤ i ∧ i + w ≤ 60 ∧ m < sw_sm (σ 40) (i + j).toNat w.toNat) → (61 - k).toNat < n → sw_E sw_ly sw_rho M_X8_mend 19 [(3, .inl k), (0, .inr (.inr 26)), (1, .inl w), (2, .inl m)] [] σ Q := by
  intro n
  induction n with
  | zero =>
    intro k hk h3 hn
    omega
  | succ n ih =>
    intro k hk h3 hn
    refine sw_blk k_X8_mend 4 23 [(3, .inl k), (0, .inr (.inr 26)), (1, .inl w), (2, .inl m)] [.inl k, .inl w, .inr (.inr 26), .inr (.inr 26)] σ rfl ?_
    refine sw_callV k_X8_mend rfl cV_X8_worstFrom ml_X8_185 ⟨by decide, by decide⟩ 26 rfl rfl [.inl w, .inl k] [.inr (.inr 26)] rfl rfl (Nat.le_of_ble_eq_true rfl) 26 rfl (sp_mWorst σ hσ hb w k (by omega) (by omega)) (fun r1 σ2 hq3 => ?_)
    obtain ⟨rfl, x, rfl, hx⟩ := hq3
    have hx1 := hx.1
    have hx2 := hx.2.1
    refine sw_blk k_X8_mend 3 29 [(3, .inl k), (0, .inr (.inr 26)), (1, .inl w), (2, .inl m)] [.inl w, .inl (x + k), .inr (.inr 26)] σ rfl ?_
    refine sw_callV k_X8_mend rfl cV_X8_sumOf ml_X8_182 ⟨by decide, by decide⟩ 26 rfl rfl [.inl (x + k), .inl w] [] rfl rfl (Nat.le_of_ble_eq_true rfl) 32 rfl (sp_mSum σ hσ hb (x + k) w (by omega) (by omega)) (fun r4 σ5 hq6 => ?_)
    obtain ⟨rfl, rfl⟩ := hq6
    have hbb := sw_sm_b hb ((x + k) : Int).toNat (w : Int).toNat
    refine sw_blk k_X8_mend 1 33 [(3, .inl k), (0, .inr (.inr 26)), (1, .inl w), (2, .inl m)] [.inl m, .inl (sw_sm (σ 40) (x + k).toNat w.toNat)] σ rfl ?_
    refine sw_icmp_le k_X8_mend rfl (by omega) (by omega) 42 36 (by decide) rfl (fun c7 => ?_) (fun c7 => ?_)
    · refine sw_blk k_X8_mend 1 43 [(3, .inl k), (0, .inr (.inr 26)), (1, .inl w), (2, .inl m)] [.inl k] σ rfl ?_
      refine sw_ireturn k_X8_mend rfl rfl ?_
      exact hQ k ⟨hk, fun i i1 i2 => by have := hx.2.2.1 i i1 i2; simp only [] at this; omega, h3⟩
    · refine sw_blk k_X8_mend 2 19 [(3, .inl (k + 1)), (0, .inr (.inr 26)), (1, .inl w), (2, .inl m)] [] σ rfl ?_
      have hk60 : k < 60 := by
        rcases Int.lt_or_le k 60 with z | z
        · exact z
        · have := sw_sm_far (σ 40) (x + k).toNat (by omega) w.toNat
          omega
      exact ih (k + 1) (by omega) (fun j j1 j2 => by rcases Int.lt_or_le j k with z | z; exact h3 j j1 z; exact ⟨x, hx1, hx2, by rw [show j = k by omega]; omega⟩) (by omega)
theorem mm_mend (σ : sw_S) (hσ : sw_gs σ) (hb : ∀ j, j < 60 → 0 ≤ σ 40 j ∧ σ 40 j ≤ 99) (w m : Int) (gw : sw_g w) (gm : sw_g m) : sw_Con sw_ly sw_rho M_X8_mend [.inr (.inr 26), .inl w, .inl m] σ (fun r σ' => σ = σ' ∧ (¬ ((1 ≤ w ∧ w ≤ 60) ∧ 0 ≤ m) ∧ r = some (.inl (-2)) ∨ ((1 ≤ w ∧ w ≤ 60) ∧ 0 ≤ m) ∧ ∃ x : Int, r = some (.inl x) ∧ ((0 ≤ x ∧ x ≤ 60) ∧ (∀ i : Int, 0 ≤ i → i + w ≤ 60 → sw_sm (σ 40) (i + x).toNat w.toNat ≤ m) ∧ ∀ k : Int, 0 ≤ k → k < x → ∃ i : Int, 0 ≤ i ∧ i + w ≤ 60 ∧ m < sw_sm (σ 40) (i + k).toNat w.toNat))) := by
  refine sw_con (by decide) (Nat.le_of_ble_eq_true rfl) ?_
  refine sw_blk k_X8_mend 3 4 [(0, .inr (.inr 26)), (1, .inl w), (2, .inl m)] [.inl 60, .inl 1, .inl w] σ rfl ?_
  refine sw_callS k_X8_mend rfl cS_X8_in ml_X8_87 ⟨by decide, by decide⟩ [.inl w, .inl 1, .inl 60] [] rfl rfl (Nat.le_of_ble_eq_true rfl) 7 rfl (sp_in σ w 1 60 (by omega) (by decide) (by decide)) (fun r2 σ3 hq4 => ?_)
  obtain ⟨rfl, ⟨p1, rfl⟩ | ⟨p1, rfl⟩⟩ := hq4
  · refine sw_blk k_X8_mend 0 7 [(0, .inr (.inr 26)), (1, .inl w), (2, .inl m)] [.inl 1] σ rfl ?_
    refine sw_if_eq k_X8_mend rfl (by decide) 14 10 (by decide) rfl (fun c => absurd c (by decide)) (fun _ => ?_)
    refine sw_blk k_X8_mend 1 11 [(0, .inr (.inr 26)), (1, .inl w), (2, .inl m)] [.inl m] σ rfl ?_
    refine sw_if_ge k_X8_mend rfl (by omega) 17 14 (by decide) rfl (fun c5 => ?_) (fun c5 => ?_)
    · refine sw_blk k_X8_mend 2 19 [(3, .inl 0), (0, .inr (.inr 26)), (1, .inl w), (2, .inl m)] [] σ rfl ?_
      exact lp_mMend σ hσ hb w m (by omega) (by omega) gm _ (fun x hx => ⟨rfl, Or.inr ⟨by omega, x, rfl, hx⟩⟩) 62 0 (by omega) (fun j j1 j2 => by omega) (by omega)
    · refine sw_blk k_X8_mend 1 16 [(0, .inr (.inr 26)), (1, .inl w), (2, .inl m)] [.inl (-2)] σ rfl ?_
      refine sw_ireturn k_X8_mend rfl rfl ?_
      exact ⟨rfl, Or.inl ⟨by omega, rfl⟩⟩
  · refine sw_blk k_X8_mend 0 7 [(0, .inr (.inr 26)), (1, .inl w), (2, .inl m)] [.inl 0] σ rfl ?_
    refine sw_if_eq k_X8_mend rfl (by decide) 14 10 (by decide) rfl (fun _ => ?_) (fun c => absurd (by decide) c)
    refine sw_blk k_X8_mend 1 16 [(0, .inr (.inr 26)), (1, .inl w), (2, .inl m)] [.inl (-2)] σ rfl ?_
    refine sw_ireturn k_X8_mend rfl rfl ?_
    exact ⟨rfl, Or.inl ⟨by omega, rfl⟩⟩
theorem sp_lacks (σ : sw_S) (hσ : sw_gs σ) (s : Int) (hs : 0 ≤ s ∧ s ≤ 3) (hz : ∀ j : Nat, j < 4 → 0 ≤ σ 43 j ∧ σ 43 j ≤ 60) (f i : Int) (gf : sw_g f) (gi : sw_g i) : sw_Con sw_ly sw_rho M_X8_lacks [.inr (.inr 26), .inl s, .inl f, .inl i] σ (fun r σ' => σ = σ' ∧ r = some (.inl ((if σ 41 s.toNat = 0 then 1 else if σ 42 s.toNat = f then (if 0 ≤ i ∧ i < σ 43 s.toNat then 0 else 2) else 3)))) := by
  refine sw_con (by decide) (Nat.le_of_ble_eq_true rfl) ?_
  have hz1 := hz s.toNat (by omega)
  refine sw_blk k_X8_lacks 3 5 [(0, .inr (.inr 26)), (1, .inl s), (2, .inl f), (3, .inl i)] [.inl s, .inr (.inr 41)] σ rfl ?_
  refine sw_zald k_X8_lacks rfl (i := 41) (n := 4) rfl (by decide) (by omega) (by omega) 6 rfl ?_
  refine sw_blk k_X8_lacks 0 6 [(0, .inr (.inr 26)), (1, .inl s), (2, .inl f), (3, .inl i)] [.inl (σ 41 s.toNat)] σ rfl ?_
  refine sw_if_ne k_X8_lacks rfl (hσ 41 _) 13 9 (by decide) rfl (fun c1 => ?_) (fun c1 => ?_)
  · refine sw_blk k_X8_lacks 3 18 [(0, .inr (.inr 26)), (1, .inl s), (2, .inl f), (3, .inl i)] [.inl s, .inr (.inr 42)] σ rfl ?_
    refine sw_iald k_X8_lacks rfl (i := 42) (n := 4) rfl (by decide) (by omega) (by omega) 19 rfl ?_
    refine sw_blk k_X8_lacks 1 20 [(0, .inr (.inr 26)), (1, .inl s), (2, .inl f), (3, .inl i)] [.inl f, .inl (σ 42 s.toNat)] σ rfl ?_
    refine sw_icmp_eq k_X8_lacks rfl (hσ 42 _) (by omega) 27 23 (by decide) rfl (fun c2 => ?_) (fun c2 => ?_)
    · refine sw_blk k_X8_lacks 5 34 [(0, .inr (.inr 26)), (1, .inl s), (2, .inl f), (3, .inl i)] [.inl s, .inr (.inr 43), .inl 0, .inl i] σ rfl ?_
      refine sw_iald k_X8_lacks rfl (i := 43) (n := 4) rfl (by decide) (by omega) (by omega) 35 rfl ?_
      refine sw_blk k_X8_lacks 2 37 [(0, .inr (.inr 26)), (1, .inl s), (2, .inl f), (3, .inl i)] [.inl ((σ 43 s.toNat) - 1), .inl 0, .inl i] σ rfl ?_
      refine sw_callS k_X8_lacks rfl cS_X8_in ml_X8_87 ⟨by decide, by decide⟩ [.inl i, .inl 0, .inl ((σ 43 s.toNat) - 1)] [] rfl rfl (Nat.le_of_ble_eq_true rfl) 40 rfl (sp_in σ i 0 ((σ 43 s.toNat) - 1) (by omega) (by decide) (by omega)) (fun r4 σ5 hq6 => ?_)
      obtain ⟨rfl, ⟨p3, rfl⟩ | ⟨p3, rfl⟩⟩ := hq6
      · refine sw_blk k_X8_lacks 0 40 [(0, .inr (.inr 26)), (1, .inl s), (2, .inl f), (3, .inl i)] [.inl 1] σ rfl ?_
        refine sw_if_eq k_X8_lacks rfl (by decide) 47 43 (by decide) rfl (fun c => absurd c (by decide)) (fun _ => ?_)
        refine sw_blk k_X8_lacks 2 48 [(0, .inr (.inr 26)), (1, .inl s), (2, .inl f), (3, .inl i)] [.inl 0] σ rfl ?_
        refine sw_ireturn k_X8_lacks rfl rfl ?_
        exact ⟨rfl, congrArg (fun q : Int => some (Sum.inl q)) (show (0 : Int) = (if σ 41 s.toNat = 0 then 1 else if σ 42 s.toNat = f then (if 0 ≤ i ∧ i < σ 43 s.toNat then 0 else 2) else 3) from by omega)⟩
      · refine sw_blk k_X8_lacks 0 40 [(0, .inr (.inr 26)), (1, .inl s), (2, .inl f), (3, .inl i)] [.inl 0] σ rfl ?_
        refine sw_if_eq k_X8_lacks rfl (by decide) 47 43 (by decide) rfl (fun _ => ?_) (fun c => absurd (by decide) c)
        refine sw_blk k_X8_lacks 1 48 [(0, .inr (.inr 26)), (1, .inl s), (2, .inl f), (3, .inl i)] [.inl 2] σ rfl ?_
        refine sw_ireturn k_X8_lacks rfl rfl ?_
        exact ⟨rfl, congrArg (fun q : Int => some (Sum.inl q)) (show (2 : Int) = (if σ 41 s.toNat = 0 then 1 else if σ 42 s.toNat = f then (if 0 ≤ i ∧ i < σ 43 s.toNat then 0 else 2) else 3) from by omega)⟩
    · refine sw_blk k_X8_lacks 2 48 [(0, .inr (.inr 26)), (1, .inl s), (2, .inl f), (3, .inl i)] [.inl 3] σ rfl ?_
      refine sw_ireturn k_X8_lacks rfl rfl ?_
      exact ⟨rfl, congrArg (fun q : Int => some (Sum.inl q)) (show (3 : Int) = (if σ 41 s.toNat = 0 then 1 else if σ 42 s.toNat = f then (if 0 ≤ i ∧ i < σ 43 s.toNat then 0 else 2) else 3) from by omega)⟩
  · refine sw_blk k_X8_lacks 2 48 [(0, .inr (.inr 26)), (1, .inl s), (2, .inl f), (3, .inl i)] [.inl 1] σ rfl ?_
    refine sw_ireturn k_X8_lacks rfl rfl ?_
    exact ⟨rfl, congrArg (fun q : Int => some (Sum.inl q)) (show (1 : Int) = (if σ 41 s.toNat = 0 then 1 else if σ 42 s.toNat = f then (if 0 ≤ i ∧ i < σ 43 s.toNat then 0 else 2) else 3) from by omega)⟩
theorem sp_mlay (σ : sw_S) (hσ : sw_gs σ) (s : Int) (hs : 0 ≤ s ∧ s ≤ 3) (i v : Int) (hi : 0 ≤ i ∧ i < 60) : sw_Con sw_ly sw_rho M_X8_lay [.inr (.inr 26), .inl s, .inl i, .inl v] σ (fun r σ' => (sw_u σ 44 (60 * s + i).toNat (sw_cv (σ 42 s.toNat) v)) = σ' ∧ r = none) := by
  refine sw_con (by decide) (Nat.le_of_ble_eq_true rfl) ?_
  refine sw_blk k_X8_lay 10 15 [(0, .inr (.inr 26)), (1, .inl s), (2, .inl i), (3, .inl v)] [.inl s, .inr (.inr 42), .inl ((60 * s) + i), .inr (.inr 44)] σ rfl ?_
  refine sw_iald k_X8_lay rfl (i := 42) (n := 4) rfl (by decide) (by omega) (by omega) 16 rfl ?_
  refine sw_blk k_X8_lay 0 16 [(0, .inr (.inr 26)), (1, .inl s), (2, .inl i), (3, .inl v)] [.inl (σ 42 s.toNat), .inl ((60 * s) + i), .inr (.inr 44)] σ rfl ?_
  refine sw_if_ne k_X8_lay rfl (hσ 42 _) 24 19 (by decide) rfl (fun c1 => ?_) (fun c1 => ?_)
  · refine sw_blk k_X8_lay 3 29 [(0, .inr (.inr 26)), (1, .inl s), (2, .inl i), (3, .inl v)] [.inl s, .inr (.inr 42), .inl ((60 * s) + i), .inr (.inr 44)] σ rfl ?_
    refine sw_iald k_X8_lay rfl (i := 42) (n := 4) rfl (by decide) (by omega) (by omega) 30 rfl ?_
    refine sw_blk k_X8_lay 1 31 [(0, .inr (.inr 26)), (1, .inl s), (2, .inl i), (3, .inl v)] [.inl 1, .inl (σ 42 s.toNat), .inl ((60 * s) + i), .inr (.inr 44)] σ rfl ?_
    refine sw_icmp_ne k_X8_lay rfl (hσ 42 _) (by decide) 39 34 (by decide) rfl (fun c2 => ?_) (fun c2 => ?_)
    · refine sw_blk k_X8_lay 1 40 [(0, .inr (.inr 26)), (1, .inl s), (2, .inl i), (3, .inl v)] [.inl v, .inl ((60 * s) + i), .inr (.inr 44)] σ rfl ?_
      refine sw_iast k_X8_lay rfl (i := 44) (n := 240) rfl (by decide) (by omega) (by omega) 41 rfl ?_
      refine sw_blk k_X8_lay 0 41 [(0, .inr (.inr 26)), (1, .inl s), (2, .inl i), (3, .inl v)] [] (sw_u σ 44 (((60 * s) + i).toNat) v) rfl ?_
      refine sw_vreturn k_X8_lay rfl rfl ?_
      exact ⟨congrArg (sw_u σ 44 (60 * s + i).toNat) (by unfold sw_cv; first | (rw [if_pos (by assumption)]; done) | (rw [if_neg (by assumption), if_pos (by assumption)]; done) | (rw [if_neg (by assumption), if_neg (by assumption)]; done)), rfl⟩
    · refine sw_blk k_X8_lay 3 40 [(0, .inr (.inr 26)), (1, .inl s), (2, .inl i), (3, .inl v)] [.inl (sw_h v), .inl ((60 * s) + i), .inr (.inr 44)] σ rfl ?_
      refine sw_iast k_X8_lay rfl (i := 44) (n := 240) rfl (by decide) (by omega) (by omega) 41 rfl ?_
      refine sw_blk k_X8_lay 0 41 [(0, .inr (.inr 26)), (1, .inl s), (2, .inl i), (3, .inl v)] [] (sw_u σ 44 (((60 * s) + i).toNat) (sw_h v)) rfl ?_
      refine sw_vreturn k_X8_lay rfl rfl ?_
      exact ⟨congrArg (sw_u σ 44 (60 * s + i).toNat) (by unfold sw_cv; first | (rw [if_pos (by assumption)]; done) | (rw [if_neg (by assumption), if_pos (by assumption)]; done) | (rw [if_neg (by assumption), if_neg (by assumption)]; done)), rfl⟩
  · refine sw_blk k_X8_lay 3 40 [(0, .inr (.inr 26)), (1, .inl s), (2, .inl i), (3, .inl v)] [.inl (sw_b v), .inl ((60 * s) + i), .inr (.inr 44)] σ rfl ?_
    refine sw_iast k_X8_lay rfl (i := 44) (n := 240) rfl (by decide) (by omega) (by omega) 41 rfl ?_
    refine sw_blk k_X8_lay 0 41 [(0, .inr (.inr 26)), (1, .inl s), (2, .inl i), (3, .inl v)] [] (sw_u σ 44 (((60 * s) + i).toNat) (sw_b v)) rfl ?_
    refine sw_vreturn k_X8_lay rfl rfl ?_
    exact ⟨congrArg (sw_u σ 44 (60 * s + i).toNat) (by unfold sw_cv; first | (rw [if_pos (by assumption)]; done) | (rw [if_neg (by assumption), if_pos (by assumption)]; done) | (rw [if_neg (by assumption), if_neg (by assumption)]; done)), rfl⟩
