/-- n is how many ticks the ride from p to q has -/
def sw_isn (lim : Nat → Int) (D V A p q : Int) (n : Nat) : Prop := (n : Int) ≤ 400 ∧ sw_R lim D V A q (if p < q then 1 else -1) n (sw_abs (q - p)) 0 ∧ ∀ m : Nat, m < n → ¬ sw_R lim D V A q (if p < q then 1 else -1) m (sw_abs (q - p)) 0
/-- a row has the ride's speeds -/
def sw_isr (lim : Nat → Int) (D V A p q : Int) (n : Nat) (f : Nat → Int) : Prop := sw_isn lim D V A p q n ∧ sw_gp lim D V A q (if p < q then 1 else -1) n (sw_abs (q - p)) 0 f 0
theorem sw_gp_rk {lim : Nat → Int} {D V A q w : Int} {f : Nat → Int} (hw : w = 1 ∨ w = -1) (hA : 1 ≤ A ∧ A ≤ 5) (N : Nat) (p : Int) : ∀ (n : Nat) (d b : Int) (k : Nat), sw_gp lim D V A q w n d b f k → k + n = N → sw_pl f p k = q - w * d → sw_pv f k = w * b → (0 ≤ q - w * d ∧ q - w * d ≤ D) → 0 ≤ b → (n = 0 → b ≤ A) → ∀ j, k ≤ j → j ≤ N → (0 ≤ sw_pl f p j ∧ sw_pl f p j ≤ D) ∧ (-9 ≤ sw_gx f N j - sw_pv f j ∧ sw_gx f N j - sw_pv f j ≤ 9)
  | 0, d, b, k, _, hN, hp, hv, hr, h0, hb, j, h1, h2 => by
    have e : j = k := by omega
    subst e
    have hb := hb rfl
    rw [hp, hv]
    refine ⟨hr, ?_⟩
    unfold sw_gx
    rw [if_neg (by omega)]
    rcases hw with rfl | rfl <;> omega
  | n + 1, d, b, k, hg, hN, hp, hv, hr, h0, hb, j, h1, h2 => by
    obtain ⟨s, e1, ⟨b1, b2, b3, b4, b5, b6, b7⟩, g1⟩ := hg
    rcases Nat.eq_or_lt_of_le h1 with z | z
    · subst z
      rw [hp, hv]
      refine ⟨hr, ?_⟩
      unfold sw_gx
      rw [if_pos (by omega), e1]
      rcases hw with rfl | rfl <;> omega
    · refine sw_gp_rk hw hA N p n (d - s) s (k + 1) g1 (by omega) ?_ ?_ ?_ (by omega) (fun z => ?_) j z h2
      · rw [sw_pl, hp, e1]; rcases hw with rfl | rfl <;> omega
      · rw [sw_pv]; exact e1
      · have a1 := b5.2.1
        have a2 := b5.2.2.1
        rcases hw with rfl | rfl <;> omega
      · subst z; exact b6.2
theorem sw_isr_rk {lim : Nat → Int} {D V A p q : Int} {n : Nat} {f : Nat → Int} (hA : 1 ≤ A ∧ A ≤ 5) (hp : 0 ≤ p ∧ p ≤ D) (h : sw_isr lim D V A p q n f) : sw_rk D f n p := by
  have hpl : q - (if p < q then 1 else -1) * sw_abs (q - p) = p := by unfold sw_abs; split <;> split <;> omega
  intro j hj
  refine sw_gp_rk (by split <;> decide) hA n p n (sw_abs (q - p)) 0 0 h.2 (by omega) ?_ ?_ ?_ (by omega) (fun _ => by omega) j (by omega) hj
  · rw [hpl]; rfl
  · rw [Int.mul_zero]; rfl
  · rw [hpl]; exact hp
theorem cc_ticks (σ : sw_S) (hσ : sw_gs σ) (hD : 10 ≤ σ 1 0 ∧ σ 1 0 ≤ 400) (hV : 1 ≤ σ 1 1 ∧ σ 1 1 ≤ 20) (hA : 1 ≤ σ 1 2 ∧ σ 1 2 ≤ 5) (hL : ∀ x : Int, 0 ≤ x → x ≤ σ 1 0 → 1 ≤ σ 2 x.toNat ∧ σ 2 x.toNat ≤ σ 1 1) (hf : sw_fn σ) (hpl : 0 ≤ σ 5 7 ∧ σ 5 7 ≤ σ 1 0) (q : Int) (gq : sw_g q) : sw_Con sw_ly sw_rho M_X7_ticks [.inr (.inr 0), .inl q] σ (fun r σ' => (¬ (0 ≤ q ∧ q ≤ σ 1 0) ∧ r = some (.inl (-2)) ∧ σ = σ') ∨ (((0 ≤ q ∧ q ≤ σ 1 0) ∧ ¬ σ 5 9 = 0) ∧ r = some (.inl (-4)) ∧ σ = σ') ∨ (((0 ≤ q ∧ q ≤ σ 1 0) ∧ σ 5 9 = 0) ∧ sw_fk σ σ' ∧ sw_gs σ' ∧ sw_fn σ' ∧ ∃ n : Nat, r = some (.inl (n : Int)) ∧ sw_isn (σ 2) (σ 1 0) (σ 1 1) (σ 1 2) (σ 5 7) q n)) := by
  refine sw_con (by decide) (Nat.le_of_ble_eq_true rfl) ?_
  refine sw_blk k_X7_ticks 3 5 [(0, .inr (.inr 0)), (1, .inl q)] [.inl q, .inr (.inr 1)] σ rfl ?_
  refine sw_callV k_X7_ticks rfl cV_X3_has ml_X7_85 ⟨by decide, by decide⟩ 1 rfl rfl [.inl q] [] rfl rfl (Nat.le_of_ble_eq_true rfl) 8 rfl (sp_has σ q (by omega) (hσ 1 0)) (fun r2 σ3 hq4 => ?_)
  obtain ⟨rfl, ⟨p1, rfl⟩ | ⟨p1, rfl⟩⟩ := hq4
  · have p1 : 0 ≤ q ∧ q ≤ (σ 1 0) := p1
    refine sw_blk k_X7_ticks 0 8 [(0, .inr (.inr 0)), (1, .inl q)] [.inl 1] σ rfl ?_
    refine sw_if_ne k_X7_ticks rfl (by decide) 14 11 (by decide) rfl (fun _ => ?_) (fun c => absurd c (by decide))
    refine sw_blk k_X7_ticks 2 18 [(0, .inr (.inr 0)), (1, .inl q)] [.inr (.inr 5)] σ rfl ?_
    refine sw_callV k_X7_ticks rfl cV_X6_rests ml_X7_67 ⟨by decide, by decide⟩ 5 rfl rfl [] [] rfl rfl (Nat.le_of_ble_eq_true rfl) 21 rfl (sp_rests σ  (hσ 5 _)) (fun r6 σ7 hq8 => ?_)
    obtain ⟨rfl, ⟨p5, rfl⟩ | ⟨p5, rfl⟩⟩ := hq8
    · refine sw_blk k_X7_ticks 0 21 [(0, .inr (.inr 0)), (1, .inl q)] [.inl 1] σ rfl ?_
      refine sw_if_ne k_X7_ticks rfl (by decide) 27 24 (by decide) rfl (fun _ => ?_) (fun c => absurd c (by decide))
      refine sw_blk k_X7_ticks 6 39 [(0, .inr (.inr 0)), (1, .inl q)] [.inl q, .inl (σ 5 7), .inr (.inr 3)] σ rfl ?_
      refine sw_callV k_X7_ticks rfl cV_X1_ticksBetween ml_X7_99 ⟨by decide, by decide⟩ 3 rfl rfl [.inl (σ 5 7), .inl q] [] rfl rfl (Nat.le_of_ble_eq_true rfl) 42 rfl (sp_ticksBetween σ hσ hD hV hA hL (σ 5 7) q (by omega) (by omega) hf) (fun r9 σ10 hq11 => ?_)
      obtain ⟨fk1, fk2, fk3, nn, rfl, nn1, nn2, nn3, nn4⟩ := hq11
      have hisn : sw_isn (σ 2) (σ 1 0) (σ 1 1) (σ 1 2) (σ 5 7) q nn := ⟨nn1, nn2, nn3⟩
      refine sw_blk k_X7_ticks 0 42 [(0, .inr (.inr 0)), (1, .inl q)] [.inl (nn : Int)] σ10 rfl ?_
      refine sw_ireturn k_X7_ticks rfl rfl ?_
      exact Or.inr (Or.inr ⟨by omega, fk1, fk2, fk3, nn, rfl, hisn⟩)
    · refine sw_blk k_X7_ticks 0 21 [(0, .inr (.inr 0)), (1, .inl q)] [.inl 0] σ rfl ?_
      refine sw_if_ne k_X7_ticks rfl (by decide) 27 24 (by decide) rfl (fun c => absurd (by decide) c) (fun _ => ?_)
      refine sw_blk k_X7_ticks 1 26 [(0, .inr (.inr 0)), (1, .inl q)] [.inl (-4)] σ rfl ?_
      refine sw_ireturn k_X7_ticks rfl rfl ?_
      exact Or.inr (Or.inl ⟨by omega, rfl, rfl⟩)
  · have p1 : ¬ (0 ≤ q ∧ q ≤ (σ 1 0)) := p1
    refine sw_blk k_X7_ticks 0 8 [(0, .inr (.inr 0)), (1, .inl q)] [.inl 0] σ rfl ?_
    refine sw_if_ne k_X7_ticks rfl (by decide) 14 11 (by decide) rfl (fun c => absurd (by decide) c) (fun _ => ?_)
    refine sw_blk k_X7_ticks 1 13 [(0, .inr (.inr 0)), (1, .inl q)] [.inl (-2)] σ rfl ?_
    refine sw_ireturn k_X7_ticks rfl rfl ?_
    exact Or.inl ⟨by omega, rfl, rfl⟩
theorem cc_speed (σ : sw_S) (hσ : sw_gs σ) (hD : 10 ≤ σ 1 0 ∧ σ 1 0 ≤ 400) (hV : 1 ≤ σ 1 1 ∧ σ 1 1 ≤ 20) (hA : 1 ≤ σ 1 2 ∧ σ 1 2 ≤ 5) (hL : ∀ x : Int, 0 ≤ x → x ≤ σ 1 0 → 1 ≤ σ 2 x.toNat ∧ σ 2 x.toNat ≤ σ 1 1) (hf : sw_fn σ) (hpl : 0 ≤ σ 5 7 ∧ σ 5 7 ≤ σ 1 0) (q t : Int) (gq : sw_g q) (gt : sw_g t) : sw_Con sw_ly sw_rho M_X7_speed [.inr (.inr 0), .inl q, .inl t] σ (fun r σ' => (¬ (0 ≤ q ∧ q ≤ σ 1 0) ∧ r = some (.inl (-2000)) ∧ σ = σ') ∨ (((0 ≤ q ∧ q ≤ σ 1 0) ∧ ¬ σ 5 9 = 0) ∧ r = some (.inl (-3000)) ∧ σ = σ') ∨ (((0 ≤ q ∧ q ≤ σ 1 0) ∧ σ 5 9 = 0) ∧ sw_fkc 25 σ σ' ∧ sw_gs σ' ∧ sw_fn σ' ∧ ∃ n : Nat, r = some (.inl (if 1 ≤ t ∧ t ≤ (n : Int) then σ' 25 (t - 1).toNat else -1000)) ∧ sw_isr (σ 2) (σ 1 0) (σ 1 1) (σ 1 2) (σ 5 7) q n (σ' 25))) := by
  refine sw_con (by decide) (Nat.le_of_ble_eq_true rfl) ?_
  refine sw_blk k_X7_speed 3 5 [(0, .inr (.inr 0)), (1, .inl q), (2, .inl t)] [.inl q, .inr (.inr 1)] σ rfl ?_
  refine sw_callV k_X7_speed rfl cV_X3_has ml_X7_85 ⟨by decide, by decide⟩ 1 rfl rfl [.inl q] [] rfl rfl (Nat.le_of_ble_eq_true rfl) 8 rfl (sp_has σ q (by omega) (hσ 1 0)) (fun r2 σ3 hq4 => ?_)
  obtain ⟨rfl, ⟨p1, rfl⟩ | ⟨p1, rfl⟩⟩ := hq4
  · have p1 : 0 ≤ q ∧ q ≤ (σ 1 0) := p1
    refine sw_blk k_X7_speed 0 8 [(0, .inr (.inr 0)), (1, .inl q), (2, .inl t)] [.inl 1] σ rfl ?_
    refine sw_if_ne k_X7_speed rfl (by decide) 15 11 (by decide) rfl (fun _ => ?_) (fun c => absurd c (by decide))
    refine sw_blk k_X7_speed 2 19 [(0, .inr (.inr 0)), (1, .inl q), (2, .inl t)] [.inr (.inr 5)] σ rfl ?_
    refine sw_callV k_X7_speed rfl cV_X6_rests ml_X7_67 ⟨by decide, by decide⟩ 5 rfl rfl [] [] rfl rfl (Nat.le_of_ble_eq_true rfl) 22 rfl (sp_rests σ  (hσ 5 _)) (fun r6 σ7 hq8 => ?_)
    obtain ⟨rfl, ⟨p5, rfl⟩ | ⟨p5, rfl⟩⟩ := hq8
    · refine sw_blk k_X7_speed 0 22 [(0, .inr (.inr 0)), (1, .inl q), (2, .inl t)] [.inl 1] σ rfl ?_
      refine sw_if_ne k_X7_speed rfl (by decide) 29 25 (by decide) rfl (fun _ => ?_) (fun c => absurd c (by decide))
      refine sw_blk k_X7_speed 8 45 [(0, .inr (.inr 0)), (1, .inl q), (2, .inl t)] [.inr (.inr 25), .inl q, .inl (σ 5 7), .inr (.inr 3)] σ rfl ?_
      refine sw_callV k_X7_speed rfl cV_X1_trace ml_X7_102 ⟨by decide, by decide⟩ 3 rfl rfl [.inl (σ 5 7), .inl q, .inr (.inr 25)] [] rfl rfl (Nat.le_of_ble_eq_true rfl) 48 rfl (sp_tracea σ hσ hD hV hA hL (σ 5 7) q (by omega) (by omega) hf) (fun r9 σ10 hq11 => ?_)
      obtain ⟨fk1, fk2, fk3, nn, rfl, nn1, nn2, nn3, nn4⟩ := hq11
      have hisr : sw_isr (σ 2) (σ 1 0) (σ 1 1) (σ 1 2) (σ 5 7) q nn _ := ⟨⟨nn1, nn2, nn3⟩, nn4⟩
      refine sw_blk k_X7_speed 4 52 [(3, .inl (nn : Int)), (0, .inr (.inr 0)), (1, .inl q), (2, .inl t)] [.inl (nn : Int), .inl 1, .inl t] σ10 rfl ?_
      refine sw_callS k_X7_speed rfl cS_X7_within ml_X7_63 ⟨by decide, by decide⟩ [.inl t, .inl 1, .inl (nn : Int)] [] rfl rfl (Nat.le_of_ble_eq_true rfl) 55 rfl (sp_within σ10 t 1 (nn : Int) (by omega) (by decide) (by omega)) (fun r13 σ14 hq15 => ?_)
      obtain ⟨rfl, ⟨p12, rfl⟩ | ⟨p12, rfl⟩⟩ := hq15
      · refine sw_blk k_X7_speed 0 55 [(3, .inl (nn : Int)), (0, .inr (.inr 0)), (1, .inl q), (2, .inl t)] [.inl 1] σ10 rfl ?_
        refine sw_if_eq k_X7_speed rfl (by decide) 69 58 (by decide) rfl (fun c => absurd c (by decide)) (fun _ => ?_)
        refine sw_blk k_X7_speed 5 65 [(3, .inl (nn : Int)), (0, .inr (.inr 0)), (1, .inl q), (2, .inl t)] [.inl (t - 1), .inr (.inr 25)] σ10 rfl ?_
        refine sw_iald k_X7_speed rfl (i := 25) (n := 400) rfl (by decide) (by omega) (by omega) 66 rfl ?_
        refine sw_blk k_X7_speed 1 72 [(3, .inl (nn : Int)), (0, .inr (.inr 0)), (1, .inl q), (2, .inl t)] [.inl (σ10 25 ((t - 1).toNat))] σ10 rfl ?_
        refine sw_ireturn k_X7_speed rfl rfl ?_
        refine Or.inr (Or.inr ⟨by omega, fk1, fk2, fk3, nn, ?_, hisr⟩)
        exact congrArg (fun z : Int => some (Sum.inl z)) (by first | (rw [if_pos (by omega)]; done) | (rw [if_neg (by omega)]; done))
      · refine sw_blk k_X7_speed 0 55 [(3, .inl (nn : Int)), (0, .inr (.inr 0)), (1, .inl q), (2, .inl t)] [.inl 0] σ10 rfl ?_
        refine sw_if_eq k_X7_speed rfl (by decide) 69 58 (by decide) rfl (fun _ => ?_) (fun c => absurd (by decide) c)
        refine sw_blk k_X7_speed 1 72 [(3, .inl (nn : Int)), (0, .inr (.inr 0)), (1, .inl q), (2, .inl t)] [.inl (-1000)] σ10 rfl ?_
        refine sw_ireturn k_X7_speed rfl rfl ?_
        refine Or.inr (Or.inr ⟨by omega, fk1, fk2, fk3, nn, ?_, hisr⟩)
        exact congrArg (fun z : Int => some (Sum.inl z)) (by first | (rw [if_pos (by omega)]; done) | (rw [if_neg (by omega)]; done))
    · refine sw_blk k_X7_speed 0 22 [(0, .inr (.inr 0)), (1, .inl q), (2, .inl t)] [.inl 0] σ rfl ?_
      refine sw_if_ne k_X7_speed rfl (by decide) 29 25 (by decide) rfl (fun c => absurd (by decide) c) (fun _ => ?_)
      refine sw_blk k_X7_speed 1 28 [(0, .inr (.inr 0)), (1, .inl q), (2, .inl t)] [.inl (-3000)] σ rfl ?_
      refine sw_ireturn k_X7_speed rfl rfl ?_
      exact Or.inr (Or.inl ⟨by omega, rfl, rfl⟩)
  · have p1 : ¬ (0 ≤ q ∧ q ≤ (σ 1 0)) := p1
    refine sw_blk k_X7_speed 0 8 [(0, .inr (.inr 0)), (1, .inl q), (2, .inl t)] [.inl 0] σ rfl ?_
    refine sw_if_ne k_X7_speed rfl (by decide) 15 11 (by decide) rfl (fun c => absurd (by decide) c) (fun _ => ?_)
    refine sw_blk k_X7_speed 1 14 [(0, .inr (.inr 0)), (1, .inl q), (2, .inl t)] [.inl (-2000)] σ rfl ?_
    refine sw_ireturn k_X7_speed rfl rfl ?_
    exact Or.inl ⟨by omega, rfl, rfl⟩
theorem cc_slipAt (σ : sw_S) (hσ : sw_gs σ) (hD : 10 ≤ σ 1 0 ∧ σ 1 0 ≤ 400) (hV : 1 ≤ σ 1 1 ∧ σ 1 1 ≤ 20) (hA : 1 ≤ σ 1 2 ∧ σ 1 2 ≤ 5) (hL : ∀ x : Int, 0 ≤ x → x ≤ σ 1 0 → 1 ≤ σ 2 x.toNat ∧ σ 2 x.toNat ≤ σ 1 1) (hf : sw_fn σ) (hpl : 0 ≤ σ 5 7 ∧ σ 5 7 ≤ σ 1 0) (hl0 : 0 ≤ σ 11 1 ∧ σ 11 1 ≤ 1000) (hl1 : 0 ≤ σ 11 2 ∧ σ 11 2 ≤ 1000) (hwt : 0 ≤ σ 11 3 ∧ σ 11 3 ≤ 10) (hkp : 100 ≤ σ 11 4 ∧ σ 11 4 ≤ 400) (q : Int) (gq : sw_g q) : sw_Con sw_ly sw_rho M_X7_slipAt [.inr (.inr 0), .inl q] σ (fun r σ' => (¬ (0 ≤ q ∧ q ≤ σ 1 0) ∧ r = some (.inl (-2)) ∧ σ = σ') ∨ (((0 ≤ q ∧ q ≤ σ 1 0) ∧ ¬ σ 5 9 = 0) ∧ r = some (.inl (-4)) ∧ σ = σ') ∨ (((0 ≤ q ∧ q ≤ σ 1 0) ∧ σ 5 9 = 0) ∧ sw_fkc 25 σ σ' ∧ sw_gs σ' ∧ sw_fn σ' ∧ ∃ (n : Nat) (x : Int), r = some (.inl x) ∧ sw_isr (σ 2) (σ 1 0) (σ 1 1) (σ 1 2) (σ 5 7) q n (σ' 25) ∧ sw_fs (sw_sl (σ 11 1) (σ 11 2) (σ 11 3) (σ 1 0) (σ' 25) n (σ 5 7) (σ 11 4)) n x)) := by
  refine sw_con (by decide) (Nat.le_of_ble_eq_true rfl) ?_
  refine sw_blk k_X7_slipAt 3 5 [(0, .inr (.inr 0)), (1, .inl q)] [.inl q, .inr (.inr 1)] σ rfl ?_
  refine sw_callV k_X7_slipAt rfl cV_X3_has ml_X7_85 ⟨by decide, by decide⟩ 1 rfl rfl [.inl q] [] rfl rfl (Nat.le_of_ble_eq_true rfl) 8 rfl (sp_has σ q (by omega) (hσ 1 0)) (fun r2 σ3 hq4 => ?_)
  obtain ⟨rfl, ⟨p1, rfl⟩ | ⟨p1, rfl⟩⟩ := hq4
  · have p1 : 0 ≤ q ∧ q ≤ (σ 1 0) := p1
    refine sw_blk k_X7_slipAt 0 8 [(0, .inr (.inr 0)), (1, .inl q)] [.inl 1] σ rfl ?_
    refine sw_if_ne k_X7_slipAt rfl (by decide) 14 11 (by decide) rfl (fun _ => ?_) (fun c => absurd c (by decide))
    refine sw_blk k_X7_slipAt 2 18 [(0, .inr (.inr 0)), (1, .inl q)] [.inr (.inr 5)] σ rfl ?_
    refine sw_callV k_X7_slipAt rfl cV_X6_rests ml_X7_67 ⟨by decide, by decide⟩ 5 rfl rfl [] [] rfl rfl (Nat.le_of_ble_eq_true rfl) 21 rfl (sp_rests σ  (hσ 5 _)) (fun r6 σ7 hq8 => ?_)
    obtain ⟨rfl, ⟨p5, rfl⟩ | ⟨p5, rfl⟩⟩ := hq8
    · refine sw_blk k_X7_slipAt 0 21 [(0, .inr (.inr 0)), (1, .inl q)] [.inl 1] σ rfl ?_
      refine sw_if_ne k_X7_slipAt rfl (by decide) 27 24 (by decide) rfl (fun _ => ?_) (fun c => absurd c (by decide))
      refine sw_blk k_X7_slipAt 8 43 [(0, .inr (.inr 0)), (1, .inl q)] [.inr (.inr 25), .inl q, .inl (σ 5 7), .inr (.inr 3)] σ rfl ?_
      refine sw_callV k_X7_slipAt rfl cV_X1_trace ml_X7_102 ⟨by decide, by decide⟩ 3 rfl rfl [.inl (σ 5 7), .inl q, .inr (.inr 25)] [] rfl rfl (Nat.le_of_ble_eq_true rfl) 46 rfl (sp_tracea σ hσ hD hV hA hL (σ 5 7) q (by omega) (by omega) hf) (fun r9 σ10 hq11 => ?_)
      obtain ⟨fk1, fk2, fk3, nn, rfl, nn1, nn2, nn3, nn4⟩ := hq11
      have hisr : sw_isr (σ 2) (σ 1 0) (σ 1 1) (σ 1 2) (σ 5 7) q nn _ := ⟨⟨nn1, nn2, nn3⟩, nn4⟩
      refine sw_blk k_X7_slipAt 9 63 [(2, .inl (nn : Int)), (0, .inr (.inr 0)), (1, .inl q)] [.inl (nn : Int), .inr (.inr 25), .inl (σ10 5 7), .inr (.inr 11)] σ10 rfl ?_
      have e1 : σ10 1 = σ 1 := funext fun j => fk1 1 j (by decide) (by decide) (fun z => absurd z (by decide))
      have e5 : σ10 5 = σ 5 := funext fun j => fk1 5 j (by decide) (by decide) (fun z => absurd z (by decide))
      have e11 : σ10 11 = σ 11 := funext fun j => fk1 11 j (by decide) (by decide) (fun z => absurd z (by decide))
      have hrk : sw_rk (σ10 1 0) (σ10 25) nn (σ10 5 7) := by rw [e1, e5]; exact sw_isr_rk hA hpl hisr
      refine sw_callV k_X7_slipAt rfl cV_X2_firstSlip ml_X7_181 ⟨by decide, by decide⟩ 11 rfl rfl [.inl (σ10 5 7), .inr (.inr 25), .inl (nn : Int)] [] rfl rfl (Nat.le_of_ble_eq_true rfl) 66 rfl (sp_fslip σ10 fk2 (by rw [e11]; exact hl0) (by rw [e11]; exact hl1) (by rw [e11]; exact hwt) (by rw [e1]; exact hD) (by rw [e11]; exact hkp) nn (σ10 5 7) (by omega) hrk) (fun r12 σ13 hq14 => ?_)
      obtain ⟨rfl, x, rfl, hx⟩ := hq14
      rw [e1, e5, e11] at hx
      refine sw_blk k_X7_slipAt 0 66 [(2, .inl (nn : Int)), (0, .inr (.inr 0)), (1, .inl q)] [.inl x] σ10 rfl ?_
      refine sw_ireturn k_X7_slipAt rfl rfl ?_
      exact Or.inr (Or.inr ⟨by omega, fk1, fk2, fk3, nn, x, rfl, hisr, hx⟩)
    · refine sw_blk k_X7_slipAt 0 21 [(0, .inr (.inr 0)), (1, .inl q)] [.inl 0] σ rfl ?_
      refine sw_if_ne k_X7_slipAt rfl (by decide) 27 24 (by decide) rfl (fun c => absurd (by decide) c) (fun _ => ?_)
      refine sw_blk k_X7_slipAt 1 26 [(0, .inr (.inr 0)), (1, .inl q)] [.inl (-4)] σ rfl ?_
      refine sw_ireturn k_X7_slipAt rfl rfl ?_
      exact Or.inr (Or.inl ⟨by omega, rfl, rfl⟩)
  · have p1 : ¬ (0 ≤ q ∧ q ≤ (σ 1 0)) := p1
    refine sw_blk k_X7_slipAt 0 8 [(0, .inr (.inr 0)), (1, .inl q)] [.inl 0] σ rfl ?_
    refine sw_if_ne k_X7_slipAt rfl (by decide) 14 11 (by decide) rfl (fun c => absurd (by decide) c) (fun _ => ?_)
    refine sw_blk k_X7_slipAt 1 13 [(0, .inr (.inr 0)), (1, .inl q)] [.inl (-2)] σ rfl ?_
    refine sw_ireturn k_X7_slipAt rfl rfl ?_
    exact Or.inl ⟨by omega, rfl, rfl⟩
theorem cc_hold (σ : sw_S) (hσ : sw_gs σ) (hD : 10 ≤ σ 1 0 ∧ σ 1 0 ≤ 400) (hV : 1 ≤ σ 1 1 ∧ σ 1 1 ≤ 20) (hA : 1 ≤ σ 1 2 ∧ σ 1 2 ≤ 5) (hL : ∀ x : Int, 0 ≤ x → x ≤ σ 1 0 → 1 ≤ σ 2 x.toNat ∧ σ 2 x.toNat ≤ σ 1 1) (hf : sw_fn σ) (hpl : 0 ≤ σ 5 7 ∧ σ 5 7 ≤ σ 1 0) (hl0 : 0 ≤ σ 11 1 ∧ σ 11 1 ≤ 1000) (hl1 : 0 ≤ σ 11 2 ∧ σ 11 2 ≤ 1000) (hwt : 0 ≤ σ 11 3 ∧ σ 11 3 ≤ 10) (hkp : 100 ≤ σ 11 4 ∧ σ 11 4 ≤ 400) (q : Int) (gq : sw_g q) : sw_Con sw_ly sw_rho M_X7_hold [.inr (.inr 0), .inl q] σ (fun r σ' => (¬ (0 ≤ q ∧ q ≤ σ 1 0) ∧ r = some (.inl (-2)) ∧ σ = σ') ∨ (((0 ≤ q ∧ q ≤ σ 1 0) ∧ ¬ σ 5 9 = 0) ∧ r = some (.inl (-4)) ∧ σ = σ') ∨ (((0 ≤ q ∧ q ≤ σ 1 0) ∧ σ 5 9 = 0) ∧ sw_fkc 25 σ σ' ∧ sw_gs σ' ∧ sw_fn σ' ∧ ∃ (n : Nat) (x : Int), r = some (.inl x) ∧ sw_isr (σ 2) (σ 1 0) (σ 1 1) (σ 1 2) (σ 5 7) q n (σ' 25) ∧ sw_lr (fun k => (sw_sl (σ 11 1) (σ 11 2) (σ 11 3) (σ 1 0) (σ' 25) n (σ 5 7) k)) n x)) := by
  refine sw_con (by decide) (Nat.le_of_ble_eq_true rfl) ?_
  refine sw_blk k_X7_hold 3 5 [(0, .inr (.inr 0)), (1, .inl q)] [.inl q, .inr (.inr 1)] σ rfl ?_
  refine sw_callV k_X7_hold rfl cV_X3_has ml_X7_85 ⟨by decide, by decide⟩ 1 rfl rfl [.inl q] [] rfl rfl (Nat.le_of_ble_eq_true rfl) 8 rfl (sp_has σ q (by omega) (hσ 1 0)) (fun r2 σ3 hq4 => ?_)
  obtain ⟨rfl, ⟨p1, rfl⟩ | ⟨p1, rfl⟩⟩ := hq4
  · have p1 : 0 ≤ q ∧ q ≤ (σ 1 0) := p1
    refine sw_blk k_X7_hold 0 8 [(0, .inr (.inr 0)), (1, .inl q)] [.inl 1] σ rfl ?_
    refine sw_if_ne k_X7_hold rfl (by decide) 14 11 (by decide) rfl (fun _ => ?_) (fun c => absurd c (by decide))
    refine sw_blk k_X7_hold 2 18 [(0, .inr (.inr 0)), (1, .inl q)] [.inr (.inr 5)] σ rfl ?_
    refine sw_callV k_X7_hold rfl cV_X6_rests ml_X7_67 ⟨by decide, by decide⟩ 5 rfl rfl [] [] rfl rfl (Nat.le_of_ble_eq_true rfl) 21 rfl (sp_rests σ  (hσ 5 _)) (fun r6 σ7 hq8 => ?_)
    obtain ⟨rfl, ⟨p5, rfl⟩ | ⟨p5, rfl⟩⟩ := hq8
    · refine sw_blk k_X7_hold 0 21 [(0, .inr (.inr 0)), (1, .inl q)] [.inl 1] σ rfl ?_
      refine sw_if_ne k_X7_hold rfl (by decide) 27 24 (by decide) rfl (fun _ => ?_) (fun c => absurd c (by decide))
      refine sw_blk k_X7_hold 8 43 [(0, .inr (.inr 0)), (1, .inl q)] [.inr (.inr 25), .inl q, .inl (σ 5 7), .inr (.inr 3)] σ rfl ?_
      refine sw_callV k_X7_hold rfl cV_X1_trace ml_X7_102 ⟨by decide, by decide⟩ 3 rfl rfl [.inl (σ 5 7), .inl q, .inr (.inr 25)] [] rfl rfl (Nat.le_of_ble_eq_true rfl) 46 rfl (sp_tracea σ hσ hD hV hA hL (σ 5 7) q (by omega) (by omega) hf) (fun r9 σ10 hq11 => ?_)
      obtain ⟨fk1, fk2, fk3, nn, rfl, nn1, nn2, nn3, nn4⟩ := hq11
      have hisr : sw_isr (σ 2) (σ 1 0) (σ 1 1) (σ 1 2) (σ 5 7) q nn _ := ⟨⟨nn1, nn2, nn3⟩, nn4⟩
      refine sw_blk k_X7_hold 9 63 [(2, .inl (nn : Int)), (0, .inr (.inr 0)), (1, .inl q)] [.inl (nn : Int), .inr (.inr 25), .inl (σ10 5 7), .inr (.inr 11)] σ10 rfl ?_
      have e1 : σ10 1 = σ 1 := funext fun j => fk1 1 j (by decide) (by decide) (fun z => absurd z (by decide))
      have e5 : σ10 5 = σ 5 := funext fun j => fk1 5 j (by decide) (by decide) (fun z => absurd z (by decide))
      have e11 : σ10 11 = σ 11 := funext fun j => fk1 11 j (by decide) (by decide) (fun z => absurd z (by decide))
      have hrk : sw_rk (σ10 1 0) (σ10 25) nn (σ10 5 7) := by rw [e1, e5]; exact sw_isr_rk hA hpl hisr
      refine sw_callV k_X7_hold rfl cV_X2_leastRatio ml_X7_185 ⟨by decide, by decide⟩ 11 rfl rfl [.inl (σ10 5 7), .inr (.inr 25), .inl (nn : Int)] [] rfl rfl (Nat.le_of_ble_eq_true rfl) 66 rfl (sp_lratio σ10 fk2 (by rw [e11]; exact hl0) (by rw [e11]; exact hl1) (by rw [e11]; exact hwt) (by rw [e1]; exact hD) nn (σ10 5 7) (by omega) hrk) (fun r12 σ13 hq14 => ?_)
      obtain ⟨rfl, x, rfl, hx⟩ := hq14
      rw [e1, e5, e11] at hx
      refine sw_blk k_X7_hold 0 66 [(2, .inl (nn : Int)), (0, .inr (.inr 0)), (1, .inl q)] [.inl x] σ10 rfl ?_
      refine sw_ireturn k_X7_hold rfl rfl ?_
      exact Or.inr (Or.inr ⟨by omega, fk1, fk2, fk3, nn, x, rfl, hisr, hx⟩)
    · refine sw_blk k_X7_hold 0 21 [(0, .inr (.inr 0)), (1, .inl q)] [.inl 0] σ rfl ?_
      refine sw_if_ne k_X7_hold rfl (by decide) 27 24 (by decide) rfl (fun c => absurd (by decide) c) (fun _ => ?_)
      refine sw_blk k_X7_hold 1 26 [(0, .inr (.inr 0)), (1, .inl q)] [.inl (-4)] σ rfl ?_
      refine sw_ireturn k_X7_hold rfl rfl ?_
      exact Or.inr (Or.inl ⟨by omega, rfl, rfl⟩)
  · have p1 : ¬ (0 ≤ q ∧ q ≤ (σ 1 0)) := p1
    refine sw_blk k_X7_hold 0 8 [(0, .inr (.inr 0)), (1, .inl q)] [.inl 0] σ rfl ?_
    refine sw_if_ne k_X7_hold rfl (by decide) 14 11 (by decide) rfl (fun c => absurd (by decide) c) (fun _ => ?_)
    refine sw_blk k_X7_hold 1 13 [(0, .inr (.inr 0)), (1, .inl q)] [.inl (-2)] σ rfl ?_
    refine sw_ireturn k_X7_hold rfl rfl ?_
    exact Or.inl ⟨by omega, rfl, rfl⟩
theorem cc_zone (σ : sw_S) (hσ : sw_gs σ) (hD : 10 ≤ σ 1 0 ∧ σ 1 0 ≤ 400) (hV : 1 ≤ σ 1 1 ∧ σ 1 1 ≤ 20) (hA : 1 ≤ σ 1 2 ∧ σ 1 2 ≤ 5) (hL : ∀ x : Int, 0 ≤ x → x ≤ σ 1 0 → 1 ≤ σ 2 x.toNat ∧ σ 2 x.toNat ≤ σ 1 1) (hz : 0 ≤ σ 1 3 ∧ σ 1 3 ≤ 6) (a b w : Int) (ga : sw_g a) (gb : sw_g b) (gw : sw_g w) : sw_Con sw_ly sw_rho M_X7_zone [.inr (.inr 0), .inl a, .inl b, .inl w] σ (fun r σ' => (¬ ((0 ≤ a ∧ a ≤ σ 1 0) ∧ (0 ≤ b ∧ b ≤ σ 1 0) ∧ a ≤ b ∧ (1 ≤ w ∧ w ≤ 20)) ∧ r = some (.inl (-2)) ∧ σ = σ') ∨ ((((0 ≤ a ∧ a ≤ σ 1 0) ∧ (0 ≤ b ∧ b ≤ σ 1 0) ∧ a ≤ b ∧ (1 ≤ w ∧ w ≤ 20)) ∧ 6 ≤ σ 1 3) ∧ r = some (.inl (-3)) ∧ σ = σ') ∨ ((((0 ≤ a ∧ a ≤ σ 1 0) ∧ (0 ≤ b ∧ b ≤ σ 1 0) ∧ a ≤ b ∧ (1 ≤ w ∧ w ≤ 20)) ∧ σ 1 3 < 6 ∧ ¬ σ 5 9 = 0) ∧ r = some (.inl (-4)) ∧ σ = σ') ∨ ((((0 ≤ a ∧ a ≤ σ 1 0) ∧ (0 ≤ b ∧ b ≤ σ 1 0) ∧ a ≤ b ∧ (1 ≤ w ∧ w ≤ 20)) ∧ σ 1 3 < 6 ∧ σ 5 9 = 0) ∧ ∃ τ : sw_S, (∀ i j, i ≠ 2 → τ i j = σ i j) ∧ (∀ x : Nat, (x : Int) ≤ σ 1 0 → τ 2 x = (if (a ≤ (x : Int) ∧ (x : Int) < b + 1) ∨ (a ≤ σ 1 0 - x ∧ σ 1 0 - x < b + 1) then min (σ 2 x) w else σ 2 x)) ∧ sw_gs τ ∧ r = some (.inl (σ 1 3 + 1)) ∧ sw_u (sw_u τ 1 3 (τ 1 3 + 1)) 3 2 (-1) = σ')) := by
  refine sw_con (by decide) (Nat.le_of_ble_eq_true rfl) ?_
  refine sw_blk k_X7_zone 3 5 [(0, .inr (.inr 0)), (1, .inl a), (2, .inl b), (3, .inl w)] [.inl a, .inr (.inr 1)] σ rfl ?_
  refine sw_callV k_X7_zone rfl cV_X3_has ml_X7_85 ⟨by decide, by decide⟩ 1 rfl rfl [.inl a] [] rfl rfl (Nat.le_of_ble_eq_true rfl) 8 rfl (sp_has σ a (by omega) (hσ 1 0)) (fun r2 σ3 hq4 => ?_)
  obtain ⟨rfl, ⟨p1, rfl⟩ | ⟨p1, rfl⟩⟩ := hq4
  · have p1 : 0 ≤ a ∧ a ≤ (σ 1 0) := p1
    refine sw_blk k_X7_zone 0 8 [(0, .inr (.inr 0)), (1, .inl a), (2, .inl b), (3, .inl w)] [.inl 1] σ rfl ?_
    refine sw_if_eq k_X7_zone rfl (by decide) 37 11 (by decide) rfl (fun c => absurd c (by decide)) (fun _ => ?_)
    refine sw_blk k_X7_zone 3 16 [(0, .inr (.inr 0)), (1, .inl a), (2, .inl b), (3, .inl w)] [.inl b, .inr (.inr 1)] σ rfl ?_
    refine sw_callV k_X7_zone rfl cV_X3_has ml_X7_85 ⟨by decide, by decide⟩ 1 rfl rfl [.inl b] [] rfl rfl (Nat.le_of_ble_eq_true rfl) 19 rfl (sp_has σ b (by omega) (hσ 1 0)) (fun r6 σ7 hq8 => ?_)
    obtain ⟨rfl, ⟨p5, rfl⟩ | ⟨p5, rfl⟩⟩ := hq8
    · have p5 : 0 ≤ b ∧ b ≤ (σ 1 0) := p5
      refine sw_blk k_X7_zone 0 19 [(0, .inr (.inr 0)), (1, .inl a), (2, .inl b), (3, .inl w)] [.inl 1] σ rfl ?_
      refine sw_if_eq k_X7_zone rfl (by decide) 37 22 (by decide) rfl (fun c => absurd c (by decide)) (fun _ => ?_)
      refine sw_blk k_X7_zone 2 24 [(0, .inr (.inr 0)), (1, .inl a), (2, .inl b), (3, .inl w)] [.inl b, .inl a] σ rfl ?_
      refine sw_icmp_gt k_X7_zone rfl (by omega) (by omega) 37 27 (by decide) rfl (fun c9 => ?_) (fun c9 => ?_)
      · refine sw_blk k_X7_zone 1 39 [(0, .inr (.inr 0)), (1, .inl a), (2, .inl b), (3, .inl w)] [.inl (-2)] σ rfl ?_
        refine sw_ireturn k_X7_zone rfl rfl ?_
        exact Or.inl ⟨by omega, rfl, rfl⟩
      · refine sw_blk k_X7_zone 3 31 [(0, .inr (.inr 0)), (1, .inl a), (2, .inl b), (3, .inl w)] [.inl 20, .inl 1, .inl w] σ rfl ?_
        refine sw_callS k_X7_zone rfl cS_X7_within ml_X7_63 ⟨by decide, by decide⟩ [.inl w, .inl 1, .inl 20] [] rfl rfl (Nat.le_of_ble_eq_true rfl) 34 rfl (sp_within σ w 1 20 (by omega) (by decide) (by decide)) (fun r11 σ12 hq13 => ?_)
        obtain ⟨rfl, ⟨p10, rfl⟩ | ⟨p10, rfl⟩⟩ := hq13
        · refine sw_blk k_X7_zone 0 34 [(0, .inr (.inr 0)), (1, .inl a), (2, .inl b), (3, .inl w)] [.inl 1] σ rfl ?_
          refine sw_if_ne k_X7_zone rfl (by decide) 40 37 (by decide) rfl (fun _ => ?_) (fun c => absurd c (by decide))
          refine sw_blk k_X7_zone 4 49 [(0, .inr (.inr 0)), (1, .inl a), (2, .inl b), (3, .inl w)] [.inl 6, .inl (σ 1 3)] σ rfl ?_
          refine sw_icmp_lt k_X7_zone rfl (hσ 1 _) (by decide) 55 52 (by decide) rfl (fun c14 => ?_) (fun c14 => ?_)
          · refine sw_blk k_X7_zone 2 59 [(0, .inr (.inr 0)), (1, .inl a), (2, .inl b), (3, .inl w)] [.inr (.inr 5)] σ rfl ?_
            refine sw_callV k_X7_zone rfl cV_X6_rests ml_X7_67 ⟨by decide, by decide⟩ 5 rfl rfl [] [] rfl rfl (Nat.le_of_ble_eq_true rfl) 62 rfl (sp_rests σ  (hσ 5 _)) (fun r16 σ17 hq18 => ?_)
            obtain ⟨rfl, ⟨p15, rfl⟩ | ⟨p15, rfl⟩⟩ := hq18
            · refine sw_blk k_X7_zone 0 62 [(0, .inr (.inr 0)), (1, .inl a), (2, .inl b), (3, .inl w)] [.inl 1] σ rfl ?_
              refine sw_if_ne k_X7_zone rfl (by decide) 68 65 (by decide) rfl (fun _ => ?_) (fun c => absurd c (by decide))
              refine sw_blk k_X7_zone 5 75 [(0, .inr (.inr 0)), (1, .inl a), (2, .inl b), (3, .inl w)] [.inl w, .inl b, .inl a, .inr (.inr 1)] σ rfl ?_
              refine sw_callV k_X7_zone rfl cV_X3_addZone ml_X7_92 ⟨by decide, by decide⟩ 1 rfl rfl [.inl a, .inl b, .inl w] [] rfl rfl (Nat.le_of_ble_eq_true rfl) 78 rfl (sp_addZone σ hσ a b w (by omega) (by omega) hD) (fun r19 σ20 hq21 => ?_)
              obtain ⟨rfl, τ, z1, z2, z3, rfl⟩ := hq21
              refine sw_blk k_X7_zone 2 82 [(0, .inr (.inr 0)), (1, .inl a), (2, .inl b), (3, .inl w)] [.inr (.inr 3)] (sw_u τ 1 3 (τ 1 3 + 1)) rfl ?_
              refine sw_callV k_X7_zone rfl cV_X1_forget ml_X7_75 ⟨by decide, by decide⟩ 3 rfl rfl [] [] rfl rfl (Nat.le_of_ble_eq_true rfl) 85 rfl (sp_forget (sw_u τ 1 3 (τ 1 3 + 1))  ) (fun r22 σ23 hq24 => ?_)
              obtain ⟨rfl, rfl⟩ := hq24
              refine sw_blk k_X7_zone 3 92 [(0, .inr (.inr 0)), (1, .inl a), (2, .inl b), (3, .inl w)] [.inl (τ 1 3 + 1)] (sw_u (sw_u τ 1 3 (τ 1 3 + 1)) 3 2 (-1)) rfl ?_
              refine sw_ireturn k_X7_zone rfl rfl ?_
              exact Or.inr (Or.inr (Or.inr ⟨by omega, τ, z1, z2, z3, by rw [z1 1 3 (by decide)], rfl⟩))
            · refine sw_blk k_X7_zone 0 62 [(0, .inr (.inr 0)), (1, .inl a), (2, .inl b), (3, .inl w)] [.inl 0] σ rfl ?_
              refine sw_if_ne k_X7_zone rfl (by decide) 68 65 (by decide) rfl (fun c => absurd (by decide) c) (fun _ => ?_)
              refine sw_blk k_X7_zone 1 67 [(0, .inr (.inr 0)), (1, .inl a), (2, .inl b), (3, .inl w)] [.inl (-4)] σ rfl ?_
              refine sw_ireturn k_X7_zone rfl rfl ?_
              exact Or.inr (Or.inr (Or.inl ⟨by omega, rfl, rfl⟩))
          · refine sw_blk k_X7_zone 1 54 [(0, .inr (.inr 0)), (1, .inl a), (2, .inl b), (3, .inl w)] [.inl (-3)] σ rfl ?_
            refine sw_ireturn k_X7_zone rfl rfl ?_
            exact Or.inr (Or.inl ⟨by omega, rfl, rfl⟩)
        · refine sw_blk k_X7_zone 0 34 [(0, .inr (.inr 0)), (1, .inl a), (2, .inl b), (3, .inl w)] [.inl 0] σ rfl ?_
          refine sw_if_ne k_X7_zone rfl (by decide) 40 37 (by decide) rfl (fun c => absurd (by decide) c) (fun _ => ?_)
          refine sw_blk k_X7_zone 1 39 [(0, .inr (.inr 0)), (1, .inl a), (2, .inl b), (3, .inl w)] [.inl (-2)] σ rfl ?_
          refine sw_ireturn k_X7_zone rfl rfl ?_
          exact Or.inl ⟨by omega, rfl, rfl⟩
    · have p5 : ¬ (0 ≤ b ∧ b ≤ (σ 1 0)) := p5
      refine sw_blk k_X7_zone 0 19 [(0, .inr (.inr 0)), (1, .inl a), (2, .inl b), (3, .inl w)] [.inl 0] σ rfl ?_
      refine sw_if_eq k_X7_zone rfl (by decide) 37 22 (by decide) rfl (fun _ => ?_) (fun c => absurd (by decide) c)
      refine sw_blk k_X7_zone 1 39 [(0, .inr (.inr 0)), (1, .inl a), (2, .inl b), (3, .inl w)] [.inl (-2)] σ rfl ?_
      refine sw_ireturn k_X7_zone rfl rfl ?_
      exact Or.inl ⟨by omega, rfl, rfl⟩
  · have p1 : ¬ (0 ≤ a ∧ a ≤ (σ 1 0)) := p1
    refine sw_blk k_X7_zone 0 8 [(0, .inr (.inr 0)), (1, .inl a), (2, .inl b), (3, .inl w)] [.inl 0] σ rfl ?_
    refine sw_if_eq k_X7_zone rfl (by decide) 37 11 (by decide) rfl (fun _ => ?_) (fun c => absurd (by decide) c)
    refine sw_blk k_X7_zone 1 39 [(0, .inr (.inr 0)), (1, .inl a), (2, .inl b), (3, .inl w)] [.inl (-2)] σ rfl ?_
    refine sw_ireturn k_X7_zone rfl rfl ?_
    exact Or.inl ⟨by omega, rfl, rfl⟩
theorem cc_shift (σ : sw_S) (hσ : sw_gs σ) (hD : 10 ≤ σ 1 0 ∧ σ 1 0 ≤ 400) (hV : 1 ≤ σ 1 1 ∧ σ 1 1 ≤ 20) (hA : 1 ≤ σ 1 2 ∧ σ 1 2 ≤ 5) (hL : ∀ x : Int, 0 ≤ x → x ≤ σ 1 0 → 1 ≤ σ 2 x.toNat ∧ σ 2 x.toNat ≤ σ 1 1) (hf : sw_fn σ) (q n c b : Int) (gq : sw_g q) (gn : sw_g n) (gc : sw_g c) (gb : sw_g b) : sw_Con sw_ly sw_rho M_X7_shift [.inr (.inr 0), .inl q, .inl n, .inl c, .inl b] σ (fun r σ' => (¬ ((0 ≤ q ∧ q ≤ σ 1 0) ∧ ((1 ≤ n ∧ n ≤ 500) ∧ (1 ≤ c ∧ c ≤ 50) ∧ (0 ≤ b ∧ b ≤ 100))) ∧ r = some (.inl (-2)) ∧ σ = σ') ∨ (((0 ≤ q ∧ q ≤ σ 1 0) ∧ ((1 ≤ n ∧ n ≤ 500) ∧ (1 ≤ c ∧ c ≤ 50) ∧ (0 ≤ b ∧ b ≤ 100))) ∧ sw_fk σ σ' ∧ sw_gs σ' ∧ sw_fn σ' ∧ ∃ m : Nat, r = some (.inl ((n + c - 1) / c * (b + m + b) + ((n + c - 1) / c - 1) * m)) ∧ sw_isn (σ 2) (σ 1 0) (σ 1 1) (σ 1 2) 0 q m)) := by
  refine sw_con (by decide) (Nat.le_of_ble_eq_true rfl) ?_
  refine sw_blk k_X7_shift 3 5 [(0, .inr (.inr 0)), (1, .inl q), (2, .inl n), (3, .inl c), (4, .inl b)] [.inl q, .inr (.inr 1)] σ rfl ?_
  refine sw_callV k_X7_shift rfl cV_X3_has ml_X7_85 ⟨by decide, by decide⟩ 1 rfl rfl [.inl q] [] rfl rfl (Nat.le_of_ble_eq_true rfl) 8 rfl (sp_has σ q (by omega) (hσ 1 0)) (fun r2 σ3 hq4 => ?_)
  obtain ⟨rfl, ⟨p1, rfl⟩ | ⟨p1, rfl⟩⟩ := hq4
  · have p1 : 0 ≤ q ∧ q ≤ (σ 1 0) := p1
    refine sw_blk k_X7_shift 0 8 [(0, .inr (.inr 0)), (1, .inl q), (2, .inl n), (3, .inl c), (4, .inl b)] [.inl 1] σ rfl ?_
    refine sw_if_eq k_X7_shift rfl (by decide) 21 11 (by decide) rfl (fun c => absurd c (by decide)) (fun _ => ?_)
    refine sw_blk k_X7_shift 3 15 [(0, .inr (.inr 0)), (1, .inl q), (2, .inl n), (3, .inl c), (4, .inl b)] [.inl b, .inl c, .inl n] σ rfl ?_
    refine sw_callS k_X7_shift rfl cS_X7_areMen ml_X7_204 ⟨by decide, by decide⟩ [.inl n, .inl c, .inl b] [] rfl rfl (Nat.le_of_ble_eq_true rfl) 18 rfl (sp_areMen σ n c b (by omega) (by omega) (by omega)) (fun r6 σ7 hq8 => ?_)
    obtain ⟨rfl, ⟨p5, rfl⟩ | ⟨p5, rfl⟩⟩ := hq8
    · refine sw_blk k_X7_shift 0 18 [(0, .inr (.inr 0)), (1, .inl q), (2, .inl n), (3, .inl c), (4, .inl b)] [.inl 1] σ rfl ?_
      refine sw_if_ne k_X7_shift rfl (by decide) 24 21 (by decide) rfl (fun _ => ?_) (fun c => absurd c (by decide))
      refine sw_blk k_X7_shift 2 26 [(0, .inr (.inr 0)), (1, .inl q), (2, .inl n), (3, .inl c), (4, .inl b)] [.inl c, .inl n] σ rfl ?_
      refine sw_callS k_X7_shift rfl cS_X7_tripsFor ml_X7_207 ⟨by decide, by decide⟩ [.inl n, .inl c] [] rfl rfl (Nat.le_of_ble_eq_true rfl) 29 rfl (sp_trips σ n c (by omega) (by omega)) (fun r9 σ10 hq11 => ?_)
      obtain ⟨rfl, rfl⟩ := hq11
      refine sw_blk k_X7_shift 5 37 [(5, .inl ((n + c - 1) / c)), (0, .inr (.inr 0)), (1, .inl q), (2, .inl n), (3, .inl c), (4, .inl b)] [.inl q, .inl 0, .inr (.inr 3)] σ rfl ?_
      refine sw_callV k_X7_shift rfl cV_X1_ticksBetween ml_X7_99 ⟨by decide, by decide⟩ 3 rfl rfl [.inl 0, .inl q] [] rfl rfl (Nat.le_of_ble_eq_true rfl) 40 rfl (sp_ticksBetween σ hσ hD hV hA hL 0 q (by omega) (by omega) hf) (fun r12 σ13 hq14 => ?_)
      obtain ⟨fk1, fk2, fk3, nn, rfl, nn1, nn2, nn3, nn4⟩ := hq14
      have hisn : sw_isn (σ 2) (σ 1 0) (σ 1 1) (σ 1 2) 0 q nn := ⟨nn1, nn2, nn3⟩
      refine sw_blk k_X7_shift 14 61 [(6, .inl (nn : Int)), (5, .inl ((n + c - 1) / c)), (0, .inr (.inr 0)), (1, .inl q), (2, .inl n), (3, .inl c), (4, .inl b)] [.inl ((((n + c - 1) / c) * ((b + (nn : Int)) + b)) + ((((n + c - 1) / c) - 1) * (nn : Int)))] σ13 rfl ?_
      refine sw_ireturn k_X7_shift rfl rfl ?_
      exact Or.inr ⟨by omega, fk1, fk2, fk3, nn, rfl, hisn⟩
    · refine sw_blk k_X7_shift 0 18 [(0, .inr (.inr 0)), (1, .inl q), (2, .inl n), (3, .inl c), (4, .inl b)] [.inl 0] σ rfl ?_
      refine sw_if_ne k_X7_shift rfl (by decide) 24 21 (by decide) rfl (fun c => absurd (by decide) c) (fun _ => ?_)
      refine sw_blk k_X7_shift 1 23 [(0, .inr (.inr 0)), (1, .inl q), (2, .inl n), (3, .inl c), (4, .inl b)] [.inl (-2)] σ rfl ?_
      refine sw_ireturn k_X7_shift rfl rfl ?_
      exact Or.inl ⟨by omega, rfl, rfl⟩
  · have p1 : ¬ (0 ≤ q ∧ q ≤ (σ 1 0)) := p1
    refine sw_blk k_X7_shift 0 8 [(0, .inr (.inr 0)), (1, .inl q), (2, .inl n), (3, .inl c), (4, .inl b)] [.inl 0] σ rfl ?_
    refine sw_if_eq k_X7_shift rfl (by decide) 21 11 (by decide) rfl (fun _ => ?_) (fun c => absurd (by decide) c)
    refine sw_blk k_X7_shift 1 23 [(0, .inr (.inr 0)), (1, .inl q), (2, .inl n), (3, .inl c), (4, .inl b)] [.inl (-2)] σ rfl ?_
    refine sw_ireturn k_X7_shift rfl rfl ?_
    exact Or.inl ⟨by omega, rfl, rfl⟩
theorem cc_both (σ : sw_S) (hσ : sw_gs σ) (hD : 10 ≤ σ 1 0 ∧ σ 1 0 ≤ 400) (hV : 1 ≤ σ 1 1 ∧ σ 1 1 ≤ 20) (hA : 1 ≤ σ 1 2 ∧ σ 1 2 ≤ 5) (hL : ∀ x : Int, 0 ≤ x → x ≤ σ 1 0 → 1 ≤ σ 2 x.toNat ∧ σ 2 x.toNat ≤ σ 1 1) (hf : sw_fn σ) (n c b : Int) (gn : sw_g n) (gc : sw_g c) (gb : sw_g b) : sw_Con sw_ly sw_rho M_X7_both [.inr (.inr 0), .inl n, .inl c, .inl b] σ (fun r σ' => (¬ ((1 ≤ n ∧ n ≤ 500) ∧ (1 ≤ c ∧ c ≤ 50) ∧ (0 ≤ b ∧ b ≤ 100)) ∧ r = some (.inl (-2)) ∧ σ = σ') ∨ (((1 ≤ n ∧ n ≤ 500) ∧ (1 ≤ c ∧ c ≤ 50) ∧ (0 ≤ b ∧ b ≤ 100)) ∧ sw_fk σ σ' ∧ sw_gs σ' ∧ sw_fn σ' ∧ ∃ m : Nat, r = some (.inl (b + (n + c - 1) / c * (m + b))) ∧ sw_isn (σ 2) (σ 1 0) (σ 1 1) (σ 1 2) 0 (σ 1 0) m)) := by
  refine sw_con (by decide) (Nat.le_of_ble_eq_true rfl) ?_
  refine sw_blk k_X7_both 3 3 [(0, .inr (.inr 0)), (1, .inl n), (2, .inl c), (3, .inl b)] [.inl b, .inl c, .inl n] σ rfl ?_
  refine sw_callS k_X7_both rfl cS_X7_areMen ml_X7_204 ⟨by decide, by decide⟩ [.inl n, .inl c, .inl b] [] rfl rfl (Nat.le_of_ble_eq_true rfl) 6 rfl (sp_areMen σ n c b (by omega) (by omega) (by omega)) (fun r2 σ3 hq4 => ?_)
  obtain ⟨rfl, ⟨p1, rfl⟩ | ⟨p1, rfl⟩⟩ := hq4
  · refine sw_blk k_X7_both 0 6 [(0, .inr (.inr 0)), (1, .inl n), (2, .inl c), (3, .inl b)] [.inl 1] σ rfl ?_
    refine sw_if_ne k_X7_both rfl (by decide) 12 9 (by decide) rfl (fun _ => ?_) (fun c => absurd c (by decide))
    refine sw_blk k_X7_both 6 24 [(0, .inr (.inr 0)), (1, .inl n), (2, .inl c), (3, .inl b)] [.inl (σ 1 0), .inl 0, .inr (.inr 3)] σ rfl ?_
    refine sw_callV k_X7_both rfl cV_X1_ticksBetween ml_X7_99 ⟨by decide, by decide⟩ 3 rfl rfl [.inl 0, .inl (σ 1 0)] [] rfl rfl (Nat.le_of_ble_eq_true rfl) 27 rfl (sp_ticksBetween σ hσ hD hV hA hL 0 (σ 1 0) (by omega) (by omega) hf) (fun r5 σ6 hq7 => ?_)
    obtain ⟨fk1, fk2, fk3, nn, rfl, nn1, nn2, nn3, nn4⟩ := hq7
    have hisn : sw_isn (σ 2) (σ 1 0) (σ 1 1) (σ 1 2) 0 (σ 1 0) nn := ⟨nn1, nn2, nn3⟩
    refine sw_blk k_X7_both 4 32 [(4, .inl (nn : Int)), (0, .inr (.inr 0)), (1, .inl n), (2, .inl c), (3, .inl b)] [.inl c, .inl n, .inl b] σ6 rfl ?_
    refine sw_callS k_X7_both rfl cS_X7_tripsFor ml_X7_207 ⟨by decide, by decide⟩ [.inl n, .inl c] [.inl b] rfl rfl (Nat.le_of_ble_eq_true rfl) 35 rfl (sp_trips σ6 n c (by omega) (by omega)) (fun r8 σ9 hq10 => ?_)
    obtain ⟨rfl, rfl⟩ := hq10
    refine sw_blk k_X7_both 5 41 [(4, .inl (nn : Int)), (0, .inr (.inr 0)), (1, .inl n), (2, .inl c), (3, .inl b)] [.inl (b + (((n + c - 1) / c) * ((nn : Int) + b)))] σ6 rfl ?_
    refine sw_ireturn k_X7_both rfl rfl ?_
    exact Or.inr ⟨by omega, fk1, fk2, fk3, nn, rfl, hisn⟩
  · refine sw_blk k_X7_both 0 6 [(0, .inr (.inr 0)), (1, .inl n), (2, .inl c), (3, .inl b)] [.inl 0] σ rfl ?_
    refine sw_if_ne k_X7_both rfl (by decide) 12 9 (by decide) rfl (fun c => absurd (by decide) c) (fun _ => ?_)
    refine sw_blk k_X7_both 1 11 [(0, .inr (.inr 0)), (1, .inl n), (2, .inl c), (3, .inl b)] [.inl (-2)] σ rfl ?_
    refine sw_ireturn k_X7_both rfl rfl ?_
    exact Or.inl ⟨by omega, rfl, rfl⟩
theorem cc_begin (σ : sw_S) (hσ : sw_gs σ) (hD : 10 ≤ σ 1 0 ∧ σ 1 0 ≤ 400) (hV : 1 ≤ σ 1 1 ∧ σ 1 1 ≤ 20) (hA : 1 ≤ σ 1 2 ∧ σ 1 2 ≤ 5) (hL : ∀ x : Int, 0 ≤ x → x ≤ σ 1 0 → 1 ≤ σ 2 x.toNat ∧ σ 2 x.toNat ≤ σ 1 1) (hf : sw_fn σ) (hpl : 0 ≤ σ 5 7 ∧ σ 5 7 ≤ σ 1 0) (hst : 0 ≤ σ 0 8 ∧ σ 0 8 ≤ 6) (hsp : ∀ j : Nat, (j : Int) < σ 0 8 → 0 ≤ σ 23 j ∧ σ 23 j ≤ σ 1 0) (s : Int) (gs : sw_g s) : sw_Con sw_ly sw_rho M_X7_begin [.inr (.inr 0), .inl s] σ (fun r σ' => (¬ (0 ≤ s ∧ s ≤ σ 0 8 - 1) ∧ r = some (.inl (-2)) ∧ σ = σ') ∨ (((0 ≤ s ∧ s ≤ σ 0 8 - 1) ∧ ¬ (σ 5 9 = 0 ∧ sw_cnt (σ 8) 8 = 0 ∧ σ 5 10 = σ 24 s.toNat)) ∧ r = some (.inl (-4)) ∧ σ = σ') ∨ (((0 ≤ s ∧ s ≤ σ 0 8 - 1) ∧ (σ 5 9 = 0 ∧ sw_cnt (σ 8) 8 = 0 ∧ σ 5 10 = σ 24 s.toNat)) ∧ ∃ (n : Nat) (τ : sw_S), r = some (.inl (n : Int)) ∧ sw_fkc 10 σ τ ∧ sw_gs τ ∧ sw_fn τ ∧ sw_isr (σ 2) (σ 1 0) (σ 1 1) (σ 1 2) (σ 5 7) (σ 23 s.toNat) n (τ 10) ∧ sw_u (sw_u (sw_u (sw_u τ 5 10 0) 5 5 (n : Int)) 5 6 0) 5 9 (if 0 < (n : Int) then 1 else 0) = σ')) := by
  refine sw_con (by decide) (Nat.le_of_ble_eq_true rfl) ?_
  refine sw_blk k_X7_begin 6 8 [(0, .inr (.inr 0)), (1, .inl s)] [.inl ((σ 0 8) - 1), .inl 0, .inl s] σ rfl ?_
  refine sw_callS k_X7_begin rfl cS_X7_within ml_X7_63 ⟨by decide, by decide⟩ [.inl s, .inl 0, .inl ((σ 0 8) - 1)] [] rfl rfl (Nat.le_of_ble_eq_true rfl) 11 rfl (sp_within σ s 0 ((σ 0 8) - 1) (by omega) (by decide) (by omega)) (fun r2 σ3 hq4 => ?_)
  obtain ⟨rfl, ⟨p1, rfl⟩ | ⟨p1, rfl⟩⟩ := hq4
  · refine sw_blk k_X7_begin 0 11 [(0, .inr (.inr 0)), (1, .inl s)] [.inl 1] σ rfl ?_
    refine sw_if_ne k_X7_begin rfl (by decide) 17 14 (by decide) rfl (fun _ => ?_) (fun c => absurd c (by decide))
    refine sw_blk k_X7_begin 2 21 [(0, .inr (.inr 0)), (1, .inl s)] [.inr (.inr 5)] σ rfl ?_
    refine sw_callV k_X7_begin rfl cV_X6_rests ml_X7_67 ⟨by decide, by decide⟩ 5 rfl rfl [] [] rfl rfl (Nat.le_of_ble_eq_true rfl) 24 rfl (sp_rests σ  (hσ 5 _)) (fun r6 σ7 hq8 => ?_)
    obtain ⟨rfl, ⟨p5, rfl⟩ | ⟨p5, rfl⟩⟩ := hq8
    · refine sw_blk k_X7_begin 0 24 [(0, .inr (.inr 0)), (1, .inl s)] [.inl 1] σ rfl ?_
      refine sw_if_eq k_X7_begin rfl (by decide) 53 27 (by decide) rfl (fun c => absurd c (by decide)) (fun _ => ?_)
      refine sw_blk k_X7_begin 2 31 [(0, .inr (.inr 0)), (1, .inl s)] [.inr (.inr 5)] σ rfl ?_
      refine sw_callV k_X7_begin rfl cV_X6_openLinks ml_X7_122 ⟨by decide, by decide⟩ 5 rfl rfl [] [] rfl rfl (Nat.le_of_ble_eq_true rfl) 34 rfl (sp_openLinks σ (fun j => hσ 8 j)) (fun r9 σ10 hq11 => ?_)
      obtain ⟨rfl, rfl⟩ := hq11
      refine sw_blk k_X7_begin 0 34 [(0, .inr (.inr 0)), (1, .inl s)] [.inl (sw_cnt (σ 8) 8)] σ rfl ?_
      refine sw_if_gt k_X7_begin rfl (by have := sw_cnt_le (σ 8) 8; omega) 53 37 (by decide) rfl (fun c12 => ?_) (fun c12 => ?_)
      · refine sw_blk k_X7_begin 1 55 [(0, .inr (.inr 0)), (1, .inl s)] [.inl (-4)] σ rfl ?_
        refine sw_ireturn k_X7_begin rfl rfl ?_
        exact Or.inr (Or.inl ⟨by have := sw_cnt_le (σ 8) 8; omega, rfl, rfl⟩)
      · refine sw_blk k_X7_begin 6 49 [(0, .inr (.inr 0)), (1, .inl s)] [.inl s, .inr (.inr 24), .inl (σ 5 10)] σ rfl ?_
        refine sw_iald k_X7_begin rfl (i := 24) (n := 6) rfl (by decide) (by omega) (by omega) 50 rfl ?_
        refine sw_blk k_X7_begin 0 50 [(0, .inr (.inr 0)), (1, .inl s)] [.inl (σ 24 s.toNat), .inl (σ 5 10)] σ rfl ?_
        refine sw_icmp_eq k_X7_begin rfl (hσ 5 _) (hσ 24 _) 56 53 (by decide) rfl (fun c13 => ?_) (fun c13 => ?_)
        · refine sw_blk k_X7_begin 8 72 [(0, .inr (.inr 0)), (1, .inl s)] [.inl s, .inr (.inr 23), .inl (σ 5 7), .inr (.inr 3)] σ rfl ?_
          refine sw_iald k_X7_begin rfl (i := 23) (n := 6) rfl (by decide) (by omega) (by omega) 73 rfl ?_
          refine sw_blk k_X7_begin 3 80 [(0, .inr (.inr 0)), (1, .inl s)] [.inr (.inr 10), .inl (σ 23 s.toNat), .inl (σ 5 7), .inr (.inr 3)] σ rfl ?_
          refine sw_callV k_X7_begin rfl cV_X1_trace ml_X7_102 ⟨by decide, by decide⟩ 3 rfl rfl [.inl (σ 5 7), .inl (σ 23 s.toNat), .inr (.inr 10)] [] rfl rfl (Nat.le_of_ble_eq_true rfl) 83 rfl (sp_tracer σ hσ hD hV hA hL (σ 5 7) (σ 23 s.toNat) hpl (hsp s.toNat (by omega)) hf) (fun r14 σ15 hq16 => ?_)
          obtain ⟨fk1, fk2, fk3, nn, rfl, nn1, nn2, nn3, nn4⟩ := hq16
          have hisr : sw_isr (σ 2) (σ 1 0) (σ 1 1) (σ 1 2) (σ 5 7) (σ 23 s.toNat) nn _ := ⟨⟨nn1, nn2, nn3⟩, nn4⟩
          refine sw_blk k_X7_begin 4 89 [(2, .inl (nn : Int)), (0, .inr (.inr 0)), (1, .inl s)] [.inl (nn : Int), .inr (.inr 5)] σ15 rfl ?_
          refine sw_callV k_X7_begin rfl cV_X6_setOut ml_X7_129 ⟨by decide, by decide⟩ 5 rfl rfl [.inl (nn : Int)] [] rfl rfl (Nat.le_of_ble_eq_true rfl) 92 rfl (sp_setOut σ15 (nn : Int) (by omega)) (fun r17 σ18 hq19 => ?_)
          obtain ⟨rfl, rfl⟩ := hq19
          refine sw_blk k_X7_begin 1 93 [(2, .inl (nn : Int)), (0, .inr (.inr 0)), (1, .inl s)] [.inl (nn : Int)] (sw_u (sw_u (sw_u (sw_u σ15 5 10 0) 5 5 (nn : Int)) 5 6 0) 5 9 (if 0 < (nn : Int) then 1 else 0)) rfl ?_
          refine sw_ireturn k_X7_begin rfl rfl ?_
          exact Or.inr (Or.inr ⟨by have := sw_cnt_le (σ 8) 8; omega, nn, _, rfl, fk1, fk2, fk3, hisr, rfl⟩)
        · refine sw_blk k_X7_begin 1 55 [(0, .inr (.inr 0)), (1, .inl s)] [.inl (-4)] σ rfl ?_
          refine sw_ireturn k_X7_begin rfl rfl ?_
          exact Or.inr (Or.inl ⟨by have := sw_cnt_le (σ 8) 8; omega, rfl, rfl⟩)
    · refine sw_blk k_X7_begin 0 24 [(0, .inr (.inr 0)), (1, .inl s)] [.inl 0] σ rfl ?_
      refine sw_if_eq k_X7_begin rfl (by decide) 53 27 (by decide) rfl (fun _ => ?_) (fun c => absurd (by decide) c)
      refine sw_blk k_X7_begin 1 55 [(0, .inr (.inr 0)), (1, .inl s)] [.inl (-4)] σ rfl ?_
      refine sw_ireturn k_X7_begin rfl rfl ?_
      exact Or.inr (Or.inl ⟨by have := sw_cnt_le (σ 8) 8; omega, rfl, rfl⟩)
  · refine sw_blk k_X7_begin 0 11 [(0, .inr (.inr 0)), (1, .inl s)] [.inl 0] σ rfl ?_
    refine sw_if_ne k_X7_begin rfl (by decide) 17 14 (by decide) rfl (fun c => absurd (by decide) c) (fun _ => ?_)
    refine sw_blk k_X7_begin 1 16 [(0, .inr (.inr 0)), (1, .inl s)] [.inl (-2)] σ rfl ?_
    refine sw_ireturn k_X7_begin rfl rfl ?_
    exact Or.inl ⟨by omega, rfl, rfl⟩
