theorem sw_alw {lim : Nat → Int} {D V p v g w : Int} (hw : v = w * sw_abs v) (hg : ∀ t, 0 ≤ t → (sw_tk lim D V p (w * t) ↔ t ≤ g)) : sw_tk lim D V p v ↔ sw_abs v ≤ g := by
  have h := hg (sw_abs v) (by unfold sw_abs; omega)
  rw [← hw] at h
  exact h
theorem sp_allows (σ : sw_S) (hσ : sw_gs σ) (hD : 10 ≤ σ 1 0 ∧ σ 1 0 ≤ 400) (hV : 1 ≤ σ 1 1 ∧ σ 1 1 ≤ 20) (hA : 1 ≤ σ 1 2 ∧ σ 1 2 ≤ 5) (hL : ∀ x : Int, 0 ≤ x → x ≤ σ 1 0 → 1 ≤ σ 2 x.toNat ∧ σ 2 x.toNat ≤ σ 1 1) (p : Int) (hp : 0 ≤ p ∧ p ≤ σ 1 0) (b : Int) (hb : -20 ≤ b ∧ b ≤ 20) (v : Int) (gv : sw_g v) : sw_Con sw_ly sw_rho M_X3_allowsTick [.inr (.inr 1), .inl p, .inl b, .inl v] σ (fun r σ' => σ = σ' ∧ ((sw_abs (v - b) ≤ σ 1 2 ∧ sw_tk (σ 2) (σ 1 0) (σ 1 1) p v) ∧ r = some (.inl 1) ∨ ¬ (sw_abs (v - b) ≤ σ 1 2 ∧ sw_tk (σ 2) (σ 1 0) (σ 1 1) p v) ∧ r = some (.inl 0))) := by
  refine sw_con (by decide) (Nat.le_of_ble_eq_true rfl) ?_
  refine sw_blk k_X3_allowsTick 4 6 [(0, .inr (.inr 1)), (1, .inl p), (2, .inl b), (3, .inl v)] [.inl (-(σ 1 1)), .inl v] σ rfl ?_
  refine sw_icmp_lt k_X3_allowsTick rfl (by omega) (by omega) 17 9 (by decide) rfl (fun c1 => ?_) (fun c1 => ?_)
  · refine sw_blk k_X3_allowsTick 1 18 [(0, .inr (.inr 1)), (1, .inl p), (2, .inl b), (3, .inl v)] [.inl 0] σ rfl ?_
    refine sw_zreturn k_X3_allowsTick rfl rfl (by decide) ?_
    exact ⟨rfl, Or.inr ⟨fun q => by have := q.2.1; unfold sw_abs at this; omega, rfl⟩⟩
  · refine sw_blk k_X3_allowsTick 3 14 [(0, .inr (.inr 1)), (1, .inl p), (2, .inl b), (3, .inl v)] [.inl (σ 1 1), .inl v] σ rfl ?_
    refine sw_icmp_le k_X3_allowsTick rfl (by omega) (hσ 1 _) 19 17 (by decide) rfl (fun c2 => ?_) (fun c2 => ?_)
    · refine sw_blk k_X3_allowsTick 3 22 [(0, .inr (.inr 1)), (1, .inl p), (2, .inl b), (3, .inl v)] [.inl (v - b)] σ rfl ?_
      refine sw_callS k_X3_allowsTick rfl cS_J9_abs_0f7a4 ml_X3_51 ⟨by decide, by decide⟩ [.inl (v - b)] [] rfl rfl (Nat.le_of_ble_eq_true rfl) 25 rfl (sp_abs σ (v - b) (by omega)) (fun r3 σ4 hq5 => ?_)
      obtain ⟨rfl, rfl⟩ := hq5
      refine sw_blk k_X3_allowsTick 2 29 [(0, .inr (.inr 1)), (1, .inl p), (2, .inl b), (3, .inl v)] [.inl (σ 1 2), .inl (sw_abs (v - b))] σ rfl ?_
      refine sw_icmp_le k_X3_allowsTick rfl (by unfold sw_abs; omega) (hσ 1 _) 34 32 (by decide) rfl (fun c6 => ?_) (fun c6 => ?_)
      · refine sw_blk k_X3_allowsTick 1 35 [(0, .inr (.inr 1)), (1, .inl p), (2, .inl b), (3, .inl v)] [.inl v] σ rfl ?_
        refine sw_callS k_X3_allowsTick rfl cS_J9_abs_0f7a4 ml_X3_51 ⟨by decide, by decide⟩ [.inl v] [] rfl rfl (Nat.le_of_ble_eq_true rfl) 38 rfl (sp_abs σ v (by omega)) (fun r7 σ8 hq9 => ?_)
        obtain ⟨rfl, rfl⟩ := hq9
        refine sw_blk k_X3_allowsTick 3 41 [(0, .inr (.inr 1)), (1, .inl p), (2, .inl b), (3, .inl v)] [.inl v, .inl p, .inr (.inr 1), .inl (sw_abs v)] σ rfl ?_
        refine sw_if_ge k_X3_allowsTick rfl (by omega) 48 44 (by decide) rfl (fun c10 => ?_) (fun c10 => ?_)
        · refine sw_blk k_X3_allowsTick 1 49 [(0, .inr (.inr 1)), (1, .inl p), (2, .inl b), (3, .inl v)] [.inl 1, .inl p, .inr (.inr 1), .inl (sw_abs v)] σ rfl ?_
          refine sw_callV k_X3_allowsTick rfl cV_X3_greatestSpeed ml_X3_55 ⟨by decide, by decide⟩ 1 rfl rfl [.inl p, .inl 1] [.inl (sw_abs v)] rfl rfl (Nat.le_of_ble_eq_true rfl) 52 rfl (sp_gspd σ hσ p (by omega) hD.2 hV (fun x q1 q2 => by have := hL x q1 q2; omega)) (fun r15 σ16 hq17 => ?_)
          obtain ⟨rfl, g11, rfl, a12, b13, hg14⟩ := hq17
          refine sw_blk k_X3_allowsTick 0 52 [(0, .inr (.inr 1)), (1, .inl p), (2, .inl b), (3, .inl v)] [.inl g11, .inl (sw_abs v)] σ rfl ?_
          refine sw_icmp_gt k_X3_allowsTick rfl (by unfold sw_abs; omega) (by omega) 59 55 (by decide) rfl (fun c18 => ?_) (fun c18 => ?_)
          · refine sw_blk k_X3_allowsTick 1 60 [(0, .inr (.inr 1)), (1, .inl p), (2, .inl b), (3, .inl v)] [.inl 0] σ rfl ?_
            refine sw_zreturn k_X3_allowsTick rfl rfl (by decide) ?_
            exact ⟨rfl, Or.inr ⟨fun q => by have := (sw_alw (w := 1) (by unfold sw_abs; omega) hg14).mp q.2; omega, rfl⟩⟩
          · refine sw_blk k_X3_allowsTick 2 60 [(0, .inr (.inr 1)), (1, .inl p), (2, .inl b), (3, .inl v)] [.inl 1] σ rfl ?_
            refine sw_zreturn k_X3_allowsTick rfl rfl (by decide) ?_
            exact ⟨rfl, Or.inl ⟨⟨by omega, (sw_alw (w := 1) (by unfold sw_abs; omega) hg14).mpr (by omega)⟩, rfl⟩⟩
        · refine sw_blk k_X3_allowsTick 2 49 [(0, .inr (.inr 1)), (1, .inl p), (2, .inl b), (3, .inl v)] [.inl (-1), .inl p, .inr (.inr 1), .inl (sw_abs v)] σ rfl ?_
          refine sw_callV k_X3_allowsTick rfl cV_X3_greatestSpeed ml_X3_55 ⟨by decide, by decide⟩ 1 rfl rfl [.inl p, .inl (-1)] [.inl (sw_abs v)] rfl rfl (Nat.le_of_ble_eq_true rfl) 52 rfl (sp_gspu σ hσ p (by omega) hD.2 hV (fun x q1 q2 => by have := hL x q1 q2; omega)) (fun r23 σ24 hq25 => ?_)
          obtain ⟨rfl, g19, rfl, a20, b21, hg22⟩ := hq25
          refine sw_blk k_X3_allowsTick 0 52 [(0, .inr (.inr 1)), (1, .inl p), (2, .inl b), (3, .inl v)] [.inl g19, .inl (sw_abs v)] σ rfl ?_
          refine sw_icmp_gt k_X3_allowsTick rfl (by unfold sw_abs; omega) (by omega) 59 55 (by decide) rfl (fun c26 => ?_) (fun c26 => ?_)
          · refine sw_blk k_X3_allowsTick 1 60 [(0, .inr (.inr 1)), (1, .inl p), (2, .inl b), (3, .inl v)] [.inl 0] σ rfl ?_
            refine sw_zreturn k_X3_allowsTick rfl rfl (by decide) ?_
            exact ⟨rfl, Or.inr ⟨fun q => by have := (sw_alw (w := (-1)) (by unfold sw_abs; omega) hg22).mp q.2; omega, rfl⟩⟩
          · refine sw_blk k_X3_allowsTick 2 60 [(0, .inr (.inr 1)), (1, .inl p), (2, .inl b), (3, .inl v)] [.inl 1] σ rfl ?_
            refine sw_zreturn k_X3_allowsTick rfl rfl (by decide) ?_
            exact ⟨rfl, Or.inl ⟨⟨by omega, (sw_alw (w := (-1)) (by unfold sw_abs; omega) hg22).mpr (by omega)⟩, rfl⟩⟩
      · refine sw_blk k_X3_allowsTick 1 33 [(0, .inr (.inr 1)), (1, .inl p), (2, .inl b), (3, .inl v)] [.inl 0] σ rfl ?_
        refine sw_zreturn k_X3_allowsTick rfl rfl (by decide) ?_
        exact ⟨rfl, Or.inr ⟨fun q => by have := q.1; omega, rfl⟩⟩
    · refine sw_blk k_X3_allowsTick 1 18 [(0, .inr (.inr 1)), (1, .inl p), (2, .inl b), (3, .inl v)] [.inl 0] σ rfl ?_
      refine sw_zreturn k_X3_allowsTick rfl rfl (by decide) ?_
      exact ⟨rfl, Or.inr ⟨fun q => by have := q.2.1; unfold sw_abs at this; omega, rfl⟩⟩
def sw_pl (f : Nat → Int) (p : Int) : Nat → Int
  | 0 => p
  | n + 1 => sw_pl f p n + f n
def sw_pv (f : Nat → Int) : Nat → Int
  | 0 => 0
  | n + 1 => f n
/-- the j-th of a row's speeds is within the laws -/
def sw_lw (lim : Nat → Int) (D V A : Int) (f : Nat → Int) (p : Int) (j : Nat) : Prop := sw_abs (f j - sw_pv f j) ≤ A ∧ sw_tk lim D V (sw_pl f p j) (f j)
theorem lp_lawful0 (σ : sw_S) (hσ : sw_gs σ) (hD : 10 ≤ σ 1 0 ∧ σ 1 0 ≤ 400) (hV : 1 ≤ σ 1 1 ∧ σ 1 1 ≤ 20) (hA : 1 ≤ σ 1 2 ∧ σ 1 2 ≤ 5) (hL : ∀ x : Int, 0 ≤ x → x ≤ σ 1 0 → 1 ≤ σ 2 x.toNat ∧ σ 2 x.toNat ≤ σ 1 1) (p k : Int) (hk : 0 ≤ k ∧ k ≤ 60) (Q : Option sw_Vl → sw_S → Prop) (hQ : ∀ m : Nat, (m : Int) ≤ k → (∀ j, j < m → sw_lw (σ 2) (σ 1 0) (σ 1 1) (σ 1 2) (σ 16) p j) → ((m : Int) < k → ¬ sw_lw (σ 2) (σ 1 0) (σ 1 1) (σ 1 2) (σ 16) p m) → Q (some (.inl (m : Int))) σ) : ∀ (n : Nat) (i : Nat) (q b : Int), (i : Int) ≤ k → q = sw_pl (σ 16) p i → b = sw_pv (σ 16) i → (0 ≤ q ∧ q ≤ σ 1 0) → (-20 ≤ b ∧ b ≤ 20) → (∀ j, j < i → sw_lw (σ 2) (σ 1 0) (σ 1 1) (σ 1 2) (σ 16) p j) → 60 - i < n → sw_E sw_ly sw_rho M_X3_lawfulSpeeds 9 [(6, .inl (i : Int)), (5, .inl b), (4, .inl q), (0, .inr (.inr 1)), (1, .inl p), (2, .inr (.inr 16)), (3, .inl k)] [] σ Q := by
  intro n
  induction n with
  | zero =>
    intro i q b hik eq_ eb_ hq hb hlt hm
    omega
  | succ n ih =>
    intro i q b hik eq_ eb_ hq hb hlt hm
    refine sw_blk k_X3_lawfulSpeeds 2 12 [(6, .inl (i : Int)), (5, .inl b), (4, .inl q), (0, .inr (.inr 1)), (1, .inl p), (2, .inr (.inr 16)), (3, .inl k)] [.inl k, .inl (i : Int)] σ rfl ?_
    refine sw_icmp_ge k_X3_lawfulSpeeds rfl (by omega) (by omega) 59 15 (by decide) rfl (fun c1 => ?_) (fun c1 => ?_)
    · refine sw_blk k_X3_lawfulSpeeds 1 60 [(6, .inl (i : Int)), (5, .inl b), (4, .inl q), (0, .inr (.inr 1)), (1, .inl p), (2, .inr (.inr 16)), (3, .inl k)] [.inl k] σ rfl ?_
      refine sw_ireturn k_X3_lawfulSpeeds rfl rfl ?_
      have ei : k = (i : Int) := by omega
      rw [ei]
      exact hQ i hik hlt (fun z => by omega)
    · refine sw_blk k_X3_lawfulSpeeds 3 19 [(6, .inl (i : Int)), (5, .inl b), (4, .inl q), (0, .inr (.inr 1)), (1, .inl p), (2, .inr (.inr 16)), (3, .inl k)] [.inl 60, .inl (i : Int)] σ rfl ?_
      refine sw_icmp_ge k_X3_lawfulSpeeds rfl (by omega) (by decide) 59 22 (by decide) rfl (fun c2 => ?_) (fun c2 => ?_)
      · refine sw_blk k_X3_lawfulSpeeds 1 60 [(6, .inl (i : Int)), (5, .inl b), (4, .inl q), (0, .inr (.inr 1)), (1, .inl p), (2, .inr (.inr 16)), (3, .inl k)] [.inl k] σ rfl ?_
        refine sw_ireturn k_X3_lawfulSpeeds rfl rfl ?_
        have ei : k = (i : Int) := by omega
        rw [ei]
        exact hQ i hik hlt (fun z => by omega)
      · refine sw_blk k_X3_lawfulSpeeds 5 30 [(6, .inl (i : Int)), (5, .inl b), (4, .inl q), (0, .inr (.inr 1)), (1, .inl p), (2, .inr (.inr 16)), (3, .inl k)] [.inl (i : Int), .inr (.inr 16), .inl b, .inl q, .inr (.inr 1)] σ rfl ?_
        refine sw_iald k_X3_lawfulSpeeds rfl (i := 16) (n := 60) rfl (by decide) (by omega) (by omega) 31 rfl ?_
        refine sw_blk k_X3_lawfulSpeeds 0 31 [(6, .inl (i : Int)), (5, .inl b), (4, .inl q), (0, .inr (.inr 1)), (1, .inl p), (2, .inr (.inr 16)), (3, .inl k)] [.inl (σ 16 ((i : Int).toNat)), .inl b, .inl q, .inr (.inr 1)] σ rfl ?_
        refine sw_callV k_X3_lawfulSpeeds rfl cV_X3_allowsTick ml_X3_58 ⟨by decide, by decide⟩ 1 rfl rfl [.inl q, .inl b, .inl (σ 16 ((i : Int).toNat))] [] rfl rfl (Nat.le_of_ble_eq_true rfl) 34 rfl (sp_allows σ hσ hD hV hA hL q hq b hb (σ 16 (i : Int).toNat) (hσ 16 _)) (fun r4 σ5 hq6 => ?_)
        obtain ⟨rfl, ⟨p3, rfl⟩ | ⟨p3, rfl⟩⟩ := hq6
        · refine sw_blk k_X3_lawfulSpeeds 0 34 [(6, .inl (i : Int)), (5, .inl b), (4, .inl q), (0, .inr (.inr 1)), (1, .inl p), (2, .inr (.inr 16)), (3, .inl k)] [.inl 1] σ rfl ?_
          refine sw_if_ne k_X3_lawfulSpeeds rfl (by decide) 40 37 (by decide) rfl (fun _ => ?_) (fun c => absurd c (by decide))
          refine sw_blk k_X3_lawfulSpeeds 2 43 [(6, .inl (i : Int)), (5, .inl b), (4, .inl q), (0, .inr (.inr 1)), (1, .inl p), (2, .inr (.inr 16)), (3, .inl k)] [.inl (i : Int), .inr (.inr 16)] σ rfl ?_
          refine sw_iald k_X3_lawfulSpeeds rfl (i := 16) (n := 60) rfl (by decide) (by omega) (by omega) 44 rfl ?_
          refine sw_blk k_X3_lawfulSpeeds 7 9 [(6, .inl ((i : Int) + 1)), (4, .inl (q + (σ 16 ((i : Int).toNat)))), (5, .inl (σ 16 ((i : Int).toNat))), (0, .inr (.inr 1)), (1, .inl p), (2, .inr (.inr 16)), (3, .inl k)] [] σ rfl ?_
          refine sw_Lsub [(6, .inl ((i : Int) + 1)), (5, .inl (σ 16 ((i : Int).toNat))), (4, .inl (q + (σ 16 ((i : Int).toNat)))), (0, .inr (.inr 1)), (1, .inl p), (2, .inr (.inr 16)), (3, .inl k)] [0, 2, 1, 3, 4, 5, 6] rfl ?_
          have hlw : sw_lw (σ 2) (σ 1 0) (σ 1 1) (σ 1 2) (σ 16) p i := by unfold sw_lw; rw [← eq_, ← eb_]; exact p3
          have ht1 := p3.2.1
          have ht2 := p3.2.2.1
          have ht3 := p3.2.2.2.1
          unfold sw_abs at ht1
          exact ih (i + 1) _ _ (by omega) (by rw [eq_]; rfl) rfl ⟨ht2, ht3⟩ (by omega) (fun j hj => by rcases Nat.lt_or_ge j i with z | z; exact hlt j z; rw [show j = i by omega]; exact hlw) (by omega)
        · refine sw_blk k_X3_lawfulSpeeds 0 34 [(6, .inl (i : Int)), (5, .inl b), (4, .inl q), (0, .inr (.inr 1)), (1, .inl p), (2, .inr (.inr 16)), (3, .inl k)] [.inl 0] σ rfl ?_
          refine sw_if_ne k_X3_lawfulSpeeds rfl (by decide) 40 37 (by decide) rfl (fun c => absurd (by decide) c) (fun _ => ?_)
          refine sw_blk k_X3_lawfulSpeeds 1 39 [(6, .inl (i : Int)), (5, .inl b), (4, .inl q), (0, .inr (.inr 1)), (1, .inl p), (2, .inr (.inr 16)), (3, .inl k)] [.inl (i : Int)] σ rfl ?_
          refine sw_ireturn k_X3_lawfulSpeeds rfl rfl ?_
          exact hQ i hik hlt (fun _ z => p3 (by unfold sw_lw at z; rw [← eq_, ← eb_] at z; exact z))
theorem sp_lawful0 (σ : sw_S) (hσ : sw_gs σ) (hD : 10 ≤ σ 1 0 ∧ σ 1 0 ≤ 400) (hV : 1 ≤ σ 1 1 ∧ σ 1 1 ≤ 20) (hA : 1 ≤ σ 1 2 ∧ σ 1 2 ≤ 5) (hL : ∀ x : Int, 0 ≤ x → x ≤ σ 1 0 → 1 ≤ σ 2 x.toNat ∧ σ 2 x.toNat ≤ σ 1 1) (p k : Int) (hp : 0 ≤ p ∧ p ≤ σ 1 0) (hk : 0 ≤ k ∧ k ≤ 60) : sw_Con sw_ly sw_rho M_X3_lawfulSpeeds [.inr (.inr 1), .inl p, .inr (.inr 16), .inl k] σ (fun r σ' => σ = σ' ∧ ∃ m : Nat, r = some (.inl (m : Int)) ∧ (m : Int) ≤ k ∧ (∀ j, j < m → sw_lw (σ 2) (σ 1 0) (σ 1 1) (σ 1 2) (σ 16) p j) ∧ ((m : Int) < k → ¬ sw_lw (σ 2) (σ 1 0) (σ 1 1) (σ 1 2) (σ 16) p m)) := by
  refine sw_con (by decide) (Nat.le_of_ble_eq_true rfl) ?_
  refine sw_blk k_X3_lawfulSpeeds 6 9 [(6, .inl 0), (5, .inl 0), (4, .inl p), (0, .inr (.inr 1)), (1, .inl p), (2, .inr (.inr 16)), (3, .inl k)] [] σ rfl ?_
  exact lp_lawful0 σ hσ hD hV hA hL p k hk _ (fun m h1 h2 h3 => ⟨rfl, m, rfl, h1, h2, h3⟩) 61 0 p 0 (by omega) rfl rfl hp (by omega) (fun j hj => absurd hj (Nat.not_lt_zero j)) (by omega)
theorem lp_lawful1 (σ : sw_S) (hσ : sw_gs σ) (hD : 10 ≤ σ 1 0 ∧ σ 1 0 ≤ 400) (hV : 1 ≤ σ 1 1 ∧ σ 1 1 ≤ 20) (hA : 1 ≤ σ 1 2 ∧ σ 1 2 ≤ 5) (hL : ∀ x : Int, 0 ≤ x → x ≤ σ 1 0 → 1 ≤ σ 2 x.toNat ∧ σ 2 x.toNat ≤ σ 1 1) (p k : Int) (hk : 0 ≤ k ∧ k ≤ 60) (Q : Option sw_Vl → sw_S → Prop) (hQ : ∀ m : Nat, (m : Int) ≤ k → (∀ j, j < m → sw_lw (σ 2) (σ 1 0) (σ 1 1) (σ 1 2) (σ 18) p j) → ((m : Int) < k → ¬ sw_lw (σ 2) (σ 1 0) (σ 1 1) (σ 1 2) (σ 18) p m) → Q (some (.inl (m : Int))) σ) : ∀ (n : Nat) (i : Nat) (q b : Int), (i : Int) ≤ k → q = sw_pl (σ 18) p i → b = sw_pv (σ 18) i → (0 ≤ q ∧ q ≤ σ 1 0) → (-20 ≤ b ∧ b ≤ 20) → (∀ j, j < i → sw_lw (σ 2) (σ 1 0) (σ 1 1) (σ 1 2) (σ 18) p j) → 60 - i < n → sw_E sw_ly sw_rho M_X3_lawfulSpeeds 9 [(6, .inl (i : Int)), (5, .inl b), (4, .inl q), (0, .inr (.inr 1)), (1, .inl p), (2, .inr (.inr 18)), (3, .inl k)] [] σ Q := by
  intro n
  induction n with
  | zero =>
    intro i q b hik eq_ eb_ hq hb hlt hm
    omega
  | succ n ih =>
    intro i q b hik eq_ eb_ hq hb hlt hm
    refine sw_blk k_X3_lawfulSpeeds 2 12 [(6, .inl (i : Int)), (5, .inl b), (4, .inl q), (0, .inr (.inr 1)), (1, .inl p), (2, .inr (.inr 18)), (3, .inl k)] [.inl k, .inl (i : Int)] σ rfl ?_
    refine sw_icmp_ge k_X3_lawfulSpeeds rfl (by omega) (by omega) 59 15 (by decide) rfl (fun c1 => ?_) (fun c1 => ?_)
    · refine sw_blk k_X3_lawfulSpeeds 1 60 [(6, .inl (i : Int)), (5, .inl b), (4, .inl q), (0, .inr (.inr 1)), (1, .inl p), (2, .inr (.inr 18)), (3, .inl k)] [.inl k] σ rfl ?_
      refine sw_ireturn k_X3_lawfulSpeeds rfl rfl ?_
      have ei : k = (i : Int) := by omega
      rw [ei]
      exact hQ i hik hlt (fun z => by omega)
    · refine sw_blk k_X3_lawfulSpeeds 3 19 [(6, .inl (i : Int)), (5, .inl b), (4, .inl q), (0, .inr (.inr 1)), (1, .inl p), (2, .inr (.inr 18)), (3, .inl k)] [.inl 60, .inl (i : Int)] σ rfl ?_
      refine sw_icmp_ge k_X3_lawfulSpeeds rfl (by omega) (by decide) 59 22 (by decide) rfl (fun c2 => ?_) (fun c2 => ?_)
      · refine sw_blk k_X3_lawfulSpeeds 1 60 [(6, .inl (i : Int)), (5, .inl b), (4, .inl q), (0, .inr (.inr 1)), (1, .inl p), (2, .inr (.inr 18)), (3, .inl k)] [.inl k] σ rfl ?_
        refine sw_ireturn k_X3_lawfulSpeeds rfl rfl ?_
        have ei : k = (i : Int) := by omega
        rw [ei]
        exact hQ i hik hlt (fun z => by omega)
      · refine sw_blk k_X3_lawfulSpeeds 5 30 [(6, .inl (i : Int)), (5, .inl b), (4, .inl q), (0, .inr (.inr 1)), (1, .inl p), (2, .inr (.inr 18)), (3, .inl k)] [.inl (i : Int), .inr (.inr 18), .inl b, .inl q, .inr (.inr 1)] σ rfl ?_
        refine sw_iald k_X3_lawfulSpeeds rfl (i := 18) (n := 60) rfl (by decide) (by omega) (by omega) 31 rfl ?_
        refine sw_blk k_X3_lawfulSpeeds 0 31 [(6, .inl (i : Int)), (5, .inl b), (4, .inl q), (0, .inr (.inr 1)), (1, .inl p), (2, .inr (.inr 18)), (3, .inl k)] [.inl (σ 18 ((i : Int).toNat)), .inl b, .inl q, .inr (.inr 1)] σ rfl ?_
        refine sw_callV k_X3_lawfulSpeeds rfl cV_X3_allowsTick ml_X3_58 ⟨by decide, by decide⟩ 1 rfl rfl [.inl q, .inl b, .inl (σ 18 ((i : Int).toNat))] [] rfl rfl (Nat.le_of_ble_eq_true rfl) 34 rfl (sp_allows σ hσ hD hV hA hL q hq b hb (σ 18 (i : Int).toNat) (hσ 18 _)) (fun r4 σ5 hq6 => ?_)
        obtain ⟨rfl, ⟨p3, rfl⟩ | ⟨p3, rfl⟩⟩ := hq6
        · refine sw_blk k_X3_lawfulSpeeds 0 34 [(6, .inl (i : Int)), (5, .inl b), (4, .inl q), (0, .inr (.inr 1)), (1, .inl p), (2, .inr (.inr 18)), (3, .inl k)] [.inl 1] σ rfl ?_
          refine sw_if_ne k_X3_lawfulSpeeds rfl (by decide) 40 37 (by decide) rfl (fun _ => ?_) (fun c => absurd c (by decide))
          refine sw_blk k_X3_lawfulSpeeds 2 43 [(6, .inl (i : Int)), (5, .inl b), (4, .inl q), (0, .inr (.inr 1)), (1, .inl p), (2, .inr (.inr 18)), (3, .inl k)] [.inl (i : Int), .inr (.inr 18)] σ rfl ?_
          refine sw_iald k_X3_lawfulSpeeds rfl (i := 18) (n := 60) rfl (by decide) (by omega) (by omega) 44 rfl ?_
          refine sw_blk k_X3_lawfulSpeeds 7 9 [(6, .inl ((i : Int) + 1)), (4, .inl (q + (σ 18 ((i : Int).toNat)))), (5, .inl (σ 18 ((i : Int).toNat))), (0, .inr (.inr 1)), (1, .inl p), (2, .inr (.inr 18)), (3, .inl k)] [] σ rfl ?_
          refine sw_Lsub [(6, .inl ((i : Int) + 1)), (5, .inl (σ 18 ((i : Int).toNat))), (4, .inl (q + (σ 18 ((i : Int).toNat)))), (0, .inr (.inr 1)), (1, .inl p), (2, .inr (.inr 18)), (3, .inl k)] [0, 2, 1, 3, 4, 5, 6] rfl ?_
          have hlw : sw_lw (σ 2) (σ 1 0) (σ 1 1) (σ 1 2) (σ 18) p i := by unfold sw_lw; rw [← eq_, ← eb_]; exact p3
          have ht1 := p3.2.1
          have ht2 := p3.2.2.1
          have ht3 := p3.2.2.2.1
          unfold sw_abs at ht1
          exact ih (i + 1) _ _ (by omega) (by rw [eq_]; rfl) rfl ⟨ht2, ht3⟩ (by omega) (fun j hj => by rcases Nat.lt_or_ge j i with z | z; exact hlt j z; rw [show j = i by omega]; exact hlw) (by omega)
        · refine sw_blk k_X3_lawfulSpeeds 0 34 [(6, .inl (i : Int)), (5, .inl b), (4, .inl q), (0, .inr (.inr 1)), (1, .inl p), (2, .inr (.inr 18)), (3, .inl k)] [.inl 0] σ rfl ?_
          refine sw_if_ne k_X3_lawfulSpeeds rfl (by decide) 40 37 (by decide) rfl (fun c => absurd (by decide) c) (fun _ => ?_)
          refine sw_blk k_X3_lawfulSpeeds 1 39 [(6, .inl (i : Int)), (5, .inl b), (4, .inl q), (0, .inr (.inr 1)), (1, .inl p), (2, .inr (.inr 18)), (3, .inl k)] [.inl (i : Int)] σ rfl ?_
          refine sw_ireturn k_X3_lawfulSpeeds rfl rfl ?_
          exact hQ i hik hlt (fun _ z => p3 (by unfold sw_lw at z; rw [← eq_, ← eb_] at z; exact z))
theorem sp_lawful1 (σ : sw_S) (hσ : sw_gs σ) (hD : 10 ≤ σ 1 0 ∧ σ 1 0 ≤ 400) (hV : 1 ≤ σ 1 1 ∧ σ 1 1 ≤ 20) (hA : 1 ≤ σ 1 2 ∧ σ 1 2 ≤ 5) (hL : ∀ x : Int, 0 ≤ x → x ≤ σ 1 0 → 1 ≤ σ 2 x.toNat ∧ σ 2 x.toNat ≤ σ 1 1) (p k : Int) (hp : 0 ≤ p ∧ p ≤ σ 1 0) (hk : 0 ≤ k ∧ k ≤ 60) : sw_Con sw_ly sw_rho M_X3_lawfulSpeeds [.inr (.inr 1), .inl p, .inr (.inr 18), .inl k] σ (fun r σ' => σ = σ' ∧ ∃ m : Nat, r = some (.inl (m : Int)) ∧ (m : Int) ≤ k ∧ (∀ j, j < m → sw_lw (σ 2) (σ 1 0) (σ 1 1) (σ 1 2) (σ 18) p j) ∧ ((m : Int) < k → ¬ sw_lw (σ 2) (σ 1 0) (σ 1 1) (σ 1 2) (σ 18) p m)) := by
  refine sw_con (by decide) (Nat.le_of_ble_eq_true rfl) ?_
  refine sw_blk k_X3_lawfulSpeeds 6 9 [(6, .inl 0), (5, .inl 0), (4, .inl p), (0, .inr (.inr 1)), (1, .inl p), (2, .inr (.inr 18)), (3, .inl k)] [] σ rfl ?_
  exact lp_lawful1 σ hσ hD hV hA hL p k hk _ (fun m h1 h2 h3 => ⟨rfl, m, rfl, h1, h2, h3⟩) 61 0 p 0 (by omega) rfl rfl hp (by omega) (fun j hj => absurd hj (Nat.not_lt_zero j)) (by omega)
theorem lp_lawful2 (σ : sw_S) (hσ : sw_gs σ) (hD : 10 ≤ σ 1 0 ∧ σ 1 0 ≤ 400) (hV : 1 ≤ σ 1 1 ∧ σ 1 1 ≤ 20) (hA : 1 ≤ σ 1 2 ∧ σ 1 2 ≤ 5) (hL : ∀ x : Int, 0 ≤ x → x ≤ σ 1 0 → 1 ≤ σ 2 x.toNat ∧ σ 2 x.toNat ≤ σ 1 1) (p k : Int) (hk : 0 ≤ k ∧ k ≤ 60) (Q : Option sw_Vl → sw_S → Prop) (hQ : ∀ m : Nat, (m : Int) ≤ k → (∀ j, j < m → sw_lw (σ 2) (σ 1 0) (σ 1 1) (σ 1 2) (σ 20) p j) → ((m : Int) < k → ¬ sw_lw (σ 2) (σ 1 0) (σ 1 1) (σ 1 2) (σ 20) p m) → Q (some (.inl (m : Int))) σ) : ∀ (n : Nat) (i : Nat) (q b : Int), (i : Int) ≤ k → q = sw_pl (σ 20) p i → b = sw_pv (σ 20) i → (0 ≤ q ∧ q ≤ σ 1 0) → (-20 ≤ b ∧ b ≤ 20) → (∀ j, j < i → sw_lw (σ 2) (σ 1 0) (σ 1 1) (σ 1 2) (σ 20) p j) → 60 - i < n → sw_E sw_ly sw_rho M_X3_lawfulSpeeds 9 [(6, .inl (i : Int)), (5, .inl b), (4, .inl q), (0, .inr (.inr 1)), (1, .inl p), (2, .inr (.inr 20)), (3, .inl k)] [] σ Q := by
  intro n
  induction n with
  | zero =>
    intro i q b hik eq_ eb_ hq hb hlt hm
    omega
  | succ n ih =>
    intro i q b hik eq_ eb_ hq hb hlt hm
    refine sw_blk k_X3_lawfulSpeeds 2 12 [(6, .inl (i : Int)), (5, .inl b), (4, .inl q), (0, .inr (.inr 1)), (1, .inl p), (2, .inr (.inr 20)), (3, .inl k)] [.inl k, .inl (i : Int)] σ rfl ?_
    refine sw_icmp_ge k_X3_lawfulSpeeds rfl (by omega) (by omega) 59 15 (by decide) rfl (fun c1 => ?_) (fun c1 => ?_)
    · refine sw_blk k_X3_lawfulSpeeds 1 60 [(6, .inl (i : Int)), (5, .inl b), (4, .inl q), (0, .inr (.inr 1)), (1, .inl p), (2, .inr (.inr 20)), (3, .inl k)] [.inl k] σ rfl ?_
      refine sw_ireturn k_X3_lawfulSpeeds rfl rfl ?_
      have ei : k = (i : Int) := by omega
      rw [ei]
      exact hQ i hik hlt (fun z => by omega)
    · refine sw_blk k_X3_lawfulSpeeds 3 19 [(6, .inl (i : Int)), (5, .inl b), (4, .inl q), (0, .inr (.inr 1)), (1, .inl p), (2, .inr (.inr 20)), (3, .inl k)] [.inl 60, .inl (i : Int)] σ rfl ?_
      refine sw_icmp_ge k_X3_lawfulSpeeds rfl (by omega) (by decide) 59 22 (by decide) rfl (fun c2 => ?_) (fun c2 => ?_)
      · refine sw_blk k_X3_lawfulSpeeds 1 60 [(6, .inl (i : Int)), (5, .inl b), (4, .inl q), (0, .inr (.inr 1)), (1, .inl p), (2, .inr (.inr 20)), (3, .inl k)] [.inl k] σ rfl ?_
        refine sw_ireturn k_X3_lawfulSpeeds rfl rfl ?_
        have ei : k = (i : Int) := by omega
        rw [ei]
        exact hQ i hik hlt (fun z => by omega)
      · refine sw_blk k_X3_lawfulSpeeds 5 30 [(6, .inl (i : Int)), (5, .inl b), (4, .inl q), (0, .inr (.inr 1)), (1, .inl p), (2, .inr (.inr 20)), (3, .inl k)] [.inl (i : Int), .inr (.inr 20), .inl b, .inl q, .inr (.inr 1)] σ rfl ?_
        refine sw_iald k_X3_lawfulSpeeds rfl (i := 20) (n := 60) rfl (by decide) (by omega) (by omega) 31 rfl ?_
        refine sw_blk k_X3_lawfulSpeeds 0 31 [(6, .inl (i : Int)), (5, .inl b), (4, .inl q), (0, .inr (.inr 1)), (1, .inl p), (2, .inr (.inr 20)), (3, .inl k)] [.inl (σ 20 ((i : Int).toNat)), .inl b, .inl q, .inr (.inr 1)] σ rfl ?_
        refine sw_callV k_X3_lawfulSpeeds rfl cV_X3_allowsTick ml_X3_58 ⟨by decide, by decide⟩ 1 rfl rfl [.inl q, .inl b, .inl (σ 20 ((i : Int).toNat))] [] rfl rfl (Nat.le_of_ble_eq_true rfl) 34 rfl (sp_allows σ hσ hD hV hA hL q hq b hb (σ 20 (i : Int).toNat) (hσ 20 _)) (fun r4 σ5 hq6 => ?_)
        obtain ⟨rfl, ⟨p3, rfl⟩ | ⟨p3, rfl⟩⟩ := hq6
        · refine sw_blk k_X3_lawfulSpeeds 0 34 [(6, .inl (i : Int)), (5, .inl b), (4, .inl q), (0, .inr (.inr 1)), (1, .inl p), (2, .inr (.inr 20)), (3, .inl k)] [.inl 1] σ rfl ?_
          refine sw_if_ne k_X3_lawfulSpeeds rfl (by decide) 40 37 (by decide) rfl (fun _ => ?_) (fun c => absurd c (by decide))
          refine sw_blk k_X3_lawfulSpeeds 2 43 [(6, .inl (i : Int)), (5, .inl b), (4, .inl q), (0, .inr (.inr 1)), (1, .inl p), (2, .inr (.inr 20)), (3, .inl k)] [.inl (i : Int), .inr (.inr 20)] σ rfl ?_
          refine sw_iald k_X3_lawfulSpeeds rfl (i := 20) (n := 60) rfl (by decide) (by omega) (by omega) 44 rfl ?_
          refine sw_blk k_X3_lawfulSpeeds 7 9 [(6, .inl ((i : Int) + 1)), (4, .inl (q + (σ 20 ((i : Int).toNat)))), (5, .inl (σ 20 ((i : Int).toNat))), (0, .inr (.inr 1)), (1, .inl p), (2, .inr (.inr 20)), (3, .inl k)] [] σ rfl ?_
          refine sw_Lsub [(6, .inl ((i : Int) + 1)), (5, .inl (σ 20 ((i : Int).toNat))), (4, .inl (q + (σ 20 ((i : Int).toNat)))), (0, .inr (.inr 1)), (1, .inl p), (2, .inr (.inr 20)), (3, .inl k)] [0, 2, 1, 3, 4, 5, 6] rfl ?_
          have hlw : sw_lw (σ 2) (σ 1 0) (σ 1 1) (σ 1 2) (σ 20) p i := by unfold sw_lw; rw [← eq_, ← eb_]; exact p3
          have ht1 := p3.2.1
          have ht2 := p3.2.2.1
          have ht3 := p3.2.2.2.1
          unfold sw_abs at ht1
          exact ih (i + 1) _ _ (by omega) (by rw [eq_]; rfl) rfl ⟨ht2, ht3⟩ (by omega) (fun j hj => by rcases Nat.lt_or_ge j i with z | z; exact hlt j z; rw [show j = i by omega]; exact hlw) (by omega)
        · refine sw_blk k_X3_lawfulSpeeds 0 34 [(6, .inl (i : Int)), (5, .inl b), (4, .inl q), (0, .inr (.inr 1)), (1, .inl p), (2, .inr (.inr 20)), (3, .inl k)] [.inl 0] σ rfl ?_
          refine sw_if_ne k_X3_lawfulSpeeds rfl (by decide) 40 37 (by decide) rfl (fun c => absurd (by decide) c) (fun _ => ?_)
          refine sw_blk k_X3_lawfulSpeeds 1 39 [(6, .inl (i : Int)), (5, .inl b), (4, .inl q), (0, .inr (.inr 1)), (1, .inl p), (2, .inr (.inr 20)), (3, .inl k)] [.inl (i : Int)] σ rfl ?_
          refine sw_ireturn k_X3_lawfulSpeeds rfl rfl ?_
          exact hQ i hik hlt (fun _ z => p3 (by unfold sw_lw at z; rw [← eq_, ← eb_] at z; exact z))
theorem sp_lawful2 (σ : sw_S) (hσ : sw_gs σ) (hD : 10 ≤ σ 1 0 ∧ σ 1 0 ≤ 400) (hV : 1 ≤ σ 1 1 ∧ σ 1 1 ≤ 20) (hA : 1 ≤ σ 1 2 ∧ σ 1 2 ≤ 5) (hL : ∀ x : Int, 0 ≤ x → x ≤ σ 1 0 → 1 ≤ σ 2 x.toNat ∧ σ 2 x.toNat ≤ σ 1 1) (p k : Int) (hp : 0 ≤ p ∧ p ≤ σ 1 0) (hk : 0 ≤ k ∧ k ≤ 60) : sw_Con sw_ly sw_rho M_X3_lawfulSpeeds [.inr (.inr 1), .inl p, .inr (.inr 20), .inl k] σ (fun r σ' => σ = σ' ∧ ∃ m : Nat, r = some (.inl (m : Int)) ∧ (m : Int) ≤ k ∧ (∀ j, j < m → sw_lw (σ 2) (σ 1 0) (σ 1 1) (σ 1 2) (σ 20) p j) ∧ ((m : Int) < k → ¬ sw_lw (σ 2) (σ 1 0) (σ 1 1) (σ 1 2) (σ 20) p m)) := by
  refine sw_con (by decide) (Nat.le_of_ble_eq_true rfl) ?_
  refine sw_blk k_X3_lawfulSpeeds 6 9 [(6, .inl 0), (5, .inl 0), (4, .inl p), (0, .inr (.inr 1)), (1, .inl p), (2, .inr (.inr 20)), (3, .inl k)] [] σ rfl ?_
  exact lp_lawful2 σ hσ hD hV hA hL p k hk _ (fun m h1 h2 h3 => ⟨rfl, m, rfl, h1, h2, h3⟩) 61 0 p 0 (by omega) rfl rfl hp (by omega) (fun j hj => absurd hj (Nat.not_lt_zero j)) (by omega)
theorem lp_lawful3 (σ : sw_S) (hσ : sw_gs σ) (hD : 10 ≤ σ 1 0 ∧ σ 1 0 ≤ 400) (hV : 1 ≤ σ 1 1 ∧ σ 1 1 ≤ 20) (hA : 1 ≤ σ 1 2 ∧ σ 1 2 ≤ 5) (hL : ∀ x : Int, 0 ≤ x → x ≤ σ 1 0 → 1 ≤ σ 2 x.toNat ∧ σ 2 x.toNat ≤ σ 1 1) (p k : Int) (hk : 0 ≤ k ∧ k ≤ 60) (Q : Option sw_Vl → sw_S → Prop) (hQ : ∀ m : Nat, (m : Int) ≤ k → (∀ j, j < m → sw_lw (σ 2) (σ 1 0) (σ 1 1) (σ 1 2) (σ 22) p j) → ((m : Int) < k → ¬ sw_lw (σ 2) (σ 1 0) (σ 1 1) (σ 1 2) (σ 22) p m) → Q (some (.inl (m : Int))) σ) : ∀ (n : Nat) (i : Nat) (q b : Int), (i : Int) ≤ k → q = sw_pl (σ 22) p i → b = sw_pv (σ 22) i → (0 ≤ q ∧ q ≤ σ 1 0) → (-20 ≤ b ∧ b ≤ 20) → (∀ j, j < i → sw_lw (σ 2) (σ 1 0) (σ 1 1) (σ 1 2) (σ 22) p j) → 60 - i < n → sw_E sw_ly sw_rho M_X3_lawfulSpeeds 9 [(6, .inl (i : Int)), (5, .inl b), (4, .inl q), (0, .inr (.inr 1)), (1, .inl p), (2, .inr (.inr 22)), (3, .inl k)] [] σ Q := by
  intro n
  induction n with
  | zero =>
    intro i q b hik eq_ eb_ hq hb hlt hm
    omega
  | succ n ih =>
    intro i q b hik eq_ eb_ hq hb hlt hm
    refine sw_blk k_X3_lawfulSpeeds 2 12 [(6, .inl (i : Int)), (5, .inl b), (4, .inl q), (0, .inr (.inr 1)), (1, .inl p), (2, .inr (.inr 22)), (3, .inl k)] [.inl k, .inl (i : Int)] σ rfl ?_
    refine sw_icmp_ge k_X3_lawfulSpeeds rfl (by omega) (by omega) 59 15 (by decide) rfl (fun c1 => ?_) (fun c1 => ?_)
    · refine sw_blk k_X3_lawfulSpeeds 1 60 [(6, .inl (i : Int)), (5, .inl b), (4, .inl q), (0, .inr (.inr 1)), (1, .inl p), (2, .inr (.inr 22)), (3, .inl k)] [.inl k] σ rfl ?_
      refine sw_ireturn k_X3_lawfulSpeeds rfl rfl ?_
      have ei : k = (i : Int) := by omega
      rw [ei]
      exact hQ i hik hlt (fun z => by omega)
    · refine sw_blk k_X3_lawfulSpeeds 3 19 [(6, .inl (i : Int)), (5, .inl b), (4, .inl q), (0, .inr (.inr 1)), (1, .inl p), (2, .inr (.inr 22)), (3, .inl k)] [.inl 60, .inl (i : Int)] σ rfl ?_
      refine sw_icmp_ge k_X3_lawfulSpeeds rfl (by omega) (by decide) 59 22 (by decide) rfl (fun c2 => ?_) (fun c2 => ?_)
      · refine sw_blk k_X3_lawfulSpeeds 1 60 [(6, .inl (i : Int)), (5, .inl b), (4, .inl q), (0, .inr (.inr 1)), (1, .inl p), (2, .inr (.inr 22)), (3, .inl k)] [.inl k] σ rfl ?_
        refine sw_ireturn k_X3_lawfulSpeeds rfl rfl ?_
        have ei : k = (i : Int) := by omega
        rw [ei]
        exact hQ i hik hlt (fun z => by omega)
      · refine sw_blk k_X3_lawfulSpeeds 5 30 [(6, .inl (i : Int)), (5, .inl b), (4, .inl q), (0, .inr (.inr 1)), (1, .inl p), (2, .inr (.inr 22)), (3, .inl k)] [.inl (i : Int), .inr (.inr 22), .inl b, .inl q, .inr (.inr 1)] σ rfl ?_
        refine sw_iald k_X3_lawfulSpeeds rfl (i := 22) (n := 60) rfl (by decide) (by omega) (by omega) 31 rfl ?_
        refine sw_blk k_X3_lawfulSpeeds 0 31 [(6, .inl (i : Int)), (5, .inl b), (4, .inl q), (0, .inr (.inr 1)), (1, .inl p), (2, .inr (.inr 22)), (3, .inl k)] [.inl (σ 22 ((i : Int).toNat)), .inl b, .inl q, .inr (.inr 1)] σ rfl ?_
        refine sw_callV k_X3_lawfulSpeeds rfl cV_X3_allowsTick ml_X3_58 ⟨by decide, by decide⟩ 1 rfl rfl [.inl q, .inl b, .inl (σ 22 ((i : Int).toNat))] [] rfl rfl (Nat.le_of_ble_eq_true rfl) 34 rfl (sp_allows σ hσ hD hV hA hL q hq b hb (σ 22 (i : Int).toNat) (hσ 22 _)) (fun r4 σ5 hq6 => ?_)
        obtain ⟨rfl, ⟨p3, rfl⟩ | ⟨p3, rfl⟩⟩ := hq6
        · refine sw_blk k_X3_lawfulSpeeds 0 34 [(6, .inl (i : Int)), (5, .inl b), (4, .inl q), (0, .inr (.inr 1)), (1, .inl p), (2, .inr (.inr 22)), (3, .inl k)] [.inl 1] σ rfl ?_
          refine sw_if_ne k_X3_lawfulSpeeds rfl (by decide) 40 37 (by decide) rfl (fun _ => ?_) (fun c => absurd c (by decide))
          refine sw_blk k_X3_lawfulSpeeds 2 43 [(6, .inl (i : Int)), (5, .inl b), (4, .inl q), (0, .inr (.inr 1)), (1, .inl p), (2, .inr (.inr 22)), (3, .inl k)] [.inl (i : Int), .inr (.inr 22)] σ rfl ?_
          refine sw_iald k_X3_lawfulSpeeds rfl (i := 22) (n := 60) rfl (by decide) (by omega) (by omega) 44 rfl ?_
          refine sw_blk k_X3_lawfulSpeeds 7 9 [(6, .inl ((i : Int) + 1)), (4, .inl (q + (σ 22 ((i : Int).toNat)))), (5, .inl (σ 22 ((i : Int).toNat))), (0, .inr (.inr 1)), (1, .inl p), (2, .inr (.inr 22)), (3, .inl k)] [] σ rfl ?_
          refine sw_Lsub [(6, .inl ((i : Int) + 1)), (5, .inl (σ 22 ((i : Int).toNat))), (4, .inl (q + (σ 22 ((i : Int).toNat)))), (0, .inr (.inr 1)), (1, .inl p), (2, .inr (.inr 22)), (3, .inl k)] [0, 2, 1, 3, 4, 5, 6] rfl ?_
          have hlw : sw_lw (σ 2) (σ 1 0) (σ 1 1) (σ 1 2) (σ 22) p i := by unfold sw_lw; rw [← eq_, ← eb_]; exact p3
          have ht1 := p3.2.1
          have ht2 := p3.2.2.1
          have ht3 := p3.2.2.2.1
          unfold sw_abs at ht1
          exact ih (i + 1) _ _ (by omega) (by rw [eq_]; rfl) rfl ⟨ht2, ht3⟩ (by omega) (fun j hj => by rcases Nat.lt_or_ge j i with z | z; exact hlt j z; rw [show j = i by omega]; exact hlw) (by omega)
        · refine sw_blk k_X3_lawfulSpeeds 0 34 [(6, .inl (i : Int)), (5, .inl b), (4, .inl q), (0, .inr (.inr 1)), (1, .inl p), (2, .inr (.inr 22)), (3, .inl k)] [.inl 0] σ rfl ?_
          refine sw_if_ne k_X3_lawfulSpeeds rfl (by decide) 40 37 (by decide) rfl (fun c => absurd (by decide) c) (fun _ => ?_)
          refine sw_blk k_X3_lawfulSpeeds 1 39 [(6, .inl (i : Int)), (5, .inl b), (4, .inl q), (0, .inr (.inr 1)), (1, .inl p), (2, .inr (.inr 22)), (3, .inl k)] [.inl (i : Int)] σ rfl ?_
          refine sw_ireturn k_X3_lawfulSpeeds rfl rfl ?_
          exact hQ i hik hlt (fun _ z => p3 (by unfold sw_lw at z; rw [← eq_, ← eb_] at z; exact z))
theorem sp_lawful3 (σ : sw_S) (hσ : sw_gs σ) (hD : 10 ≤ σ 1 0 ∧ σ 1 0 ≤ 400) (hV : 1 ≤ σ 1 1 ∧ σ 1 1 ≤ 20) (hA : 1 ≤ σ 1 2 ∧ σ 1 2 ≤ 5) (hL : ∀ x : Int, 0 ≤ x → x ≤ σ 1 0 → 1 ≤ σ 2 x.toNat ∧ σ 2 x.toNat ≤ σ 1 1) (p k : Int) (hp : 0 ≤ p ∧ p ≤ σ 1 0) (hk : 0 ≤ k ∧ k ≤ 60) : sw_Con sw_ly sw_rho M_X3_lawfulSpeeds [.inr (.inr 1), .inl p, .inr (.inr 22), .inl k] σ (fun r σ' => σ = σ' ∧ ∃ m : Nat, r = some (.inl (m : Int)) ∧ (m : Int) ≤ k ∧ (∀ j, j < m → sw_lw (σ 2) (σ 1 0) (σ 1 1) (σ 1 2) (σ 22) p j) ∧ ((m : Int) < k → ¬ sw_lw (σ 2) (σ 1 0) (σ 1 1) (σ 1 2) (σ 22) p m)) := by
  refine sw_con (by decide) (Nat.le_of_ble_eq_true rfl) ?_
  refine sw_blk k_X3_lawfulSpeeds 6 9 [(6, .inl 0), (5, .inl 0), (4, .inl p), (0, .inr (.inr 1)), (1, .inl p), (2, .inr (.inr 22)), (3, .inl k)] [] σ rfl ?_
  exact lp_lawful3 σ hσ hD hV hA hL p k hk _ (fun m h1 h2 h3 => ⟨rfl, m, rfl, h1, h2, h3⟩) 61 0 p 0 (by omega) rfl rfl hp (by omega) (fun j hj => absurd hj (Nat.not_lt_zero j)) (by omega)
theorem lp_addZone (σ : sw_S) (hσ : sw_gs σ) (a b w : Int) (hab : 0 ≤ a ∧ a ≤ b ∧ b ≤ σ 1 0) (hw : 1 ≤ w ∧ w ≤ 20) (hD : 10 ≤ σ 1 0 ∧ σ 1 0 ≤ 400) (Q : Option sw_Vl → sw_S → Prop) (hQ : ∀ τ : sw_S, (∀ i j, i ≠ 2 → τ i j = σ i j) → (∀ x : Nat, (x : Int) ≤ σ 1 0 → τ 2 x = (if (a ≤ (x : Int) ∧ (x : Int) < b + 1) ∨ (a ≤ σ 1 0 - x ∧ σ 1 0 - x < b + 1) then min (σ 2 x) w else σ 2 x)) → sw_gs τ → Q none (sw_u τ 1 3 (τ 1 3 + 1))) : ∀ (n : Nat) (k : Int) (τ : sw_S), a ≤ k → k ≤ b + 1 → (∀ i j, i ≠ 2 → τ i j = σ i j) → (∀ x : Nat, (x : Int) ≤ σ 1 0 → τ 2 x = (if (a ≤ (x : Int) ∧ (x : Int) < k) ∨ (a ≤ σ 1 0 - x ∧ σ 1 0 - x < k) then min (σ 2 x) w else σ 2 x)) → sw_gs τ → (b + 1 - k).toNat < n → sw_E sw_ly sw_rho M_X3_addZone 7 [(4, .inl k), (0, .inr (.inr 1)), (1, .inl a), (2, .inl b), (3, .inl w)] [] τ Q := by
  intro n
  induction n with
  | zero =>
    intro k τ hak hkb hrow hτ hg hm
    omega
  | succ n ih =>
    intro k τ hak hkb hrow hτ hg hm
    have e10 : τ 1 0 = σ 1 0 := hrow 1 0 (by decide)
    refine sw_blk k_X3_addZone 4 14 [(4, .inl k), (0, .inr (.inr 1)), (1, .inl a), (2, .inl b), (3, .inl w)] [.inl (τ 1 0), .inl b, .inl k] τ rfl ?_
    refine sw_callS k_X3_addZone rfl cS_J9_min_7cf53 ml_X3_44 ⟨by decide, by decide⟩ [.inl b, .inl (τ 1 0)] [.inl k] rfl rfl (Nat.le_of_ble_eq_true rfl) 17 rfl (sp_min τ b (τ 1 0) (by omega) (hg 1 _)) (fun r1 σ2 hq3 => ?_)
    obtain ⟨rfl, rfl⟩ := hq3
    refine sw_blk k_X3_addZone 0 17 [(4, .inl k), (0, .inr (.inr 1)), (1, .inl a), (2, .inl b), (3, .inl w)] [.inl (min b (τ 1 0)), .inl k] τ rfl ?_
    refine sw_icmp_gt k_X3_addZone rfl (by omega) (by omega) 72 20 (by decide) rfl (fun c4 => ?_) (fun c4 => ?_)
    · refine sw_blk k_X3_addZone 6 82 [(4, .inl k), (0, .inr (.inr 1)), (1, .inl a), (2, .inl b), (3, .inl w)] [] (sw_u τ 1 3 ((τ 1 3) + 1)) rfl ?_
      refine sw_vreturn k_X3_addZone rfl rfl ?_
      have ek : k = b + 1 := by omega
      subst ek
      exact hQ τ hrow hτ hg
    · refine sw_blk k_X3_addZone 6 32 [(4, .inl k), (0, .inr (.inr 1)), (1, .inl a), (2, .inl b), (3, .inl w)] [.inl k, .inr (.inr 2), .inl k, .inr (.inr 2)] τ rfl ?_
      refine sw_iald k_X3_addZone rfl (i := 2) (n := 401) rfl (by decide) (by omega) (by omega) 33 rfl ?_
      refine sw_blk k_X3_addZone 1 34 [(4, .inl k), (0, .inr (.inr 1)), (1, .inl a), (2, .inl b), (3, .inl w)] [.inl w, .inl (τ 2 k.toNat), .inl k, .inr (.inr 2)] τ rfl ?_
      refine sw_callS k_X3_addZone rfl cS_J9_min_7cf53 ml_X3_44 ⟨by decide, by decide⟩ [.inl (τ 2 k.toNat), .inl w] [.inl k, .inr (.inr 2)] rfl rfl (Nat.le_of_ble_eq_true rfl) 37 rfl (sp_min τ (τ 2 k.toNat) w (hg 2 _) (by omega)) (fun r5 σ6 hq7 => ?_)
      obtain ⟨rfl, rfl⟩ := hq7
      refine sw_blk k_X3_addZone 0 37 [(4, .inl k), (0, .inr (.inr 1)), (1, .inl a), (2, .inl b), (3, .inl w)] [.inl (min (τ 2 k.toNat) w), .inl k, .inr (.inr 2)] τ rfl ?_
      refine sw_iast k_X3_addZone rfl (i := 2) (n := 401) rfl (by decide) (by omega) (by omega) 38 rfl ?_
      refine sw_blk k_X3_addZone 12 60 [(4, .inl k), (0, .inr (.inr 1)), (1, .inl a), (2, .inl b), (3, .inl w)] [.inl ((τ 1 0) - k), .inr (.inr 2), .inl ((τ 1 0) - k), .inr (.inr 2)] (sw_u τ 2 k.toNat (min (τ 2 k.toNat) w)) rfl ?_
      refine sw_iald k_X3_addZone rfl (i := 2) (n := 401) rfl (by decide) (by omega) (by omega) 61 rfl ?_
      refine sw_blk k_X3_addZone 1 62 [(4, .inl k), (0, .inr (.inr 1)), (1, .inl a), (2, .inl b), (3, .inl w)] [.inl w, .inl ((sw_u τ 2 k.toNat (min (τ 2 k.toNat) w)) 2 (((τ 1 0) - k).toNat)), .inl ((τ 1 0) - k), .inr (.inr 2)] (sw_u τ 2 k.toNat (min (τ 2 k.toNat) w)) rfl ?_
      refine sw_callS k_X3_addZone rfl cS_J9_min_7cf53 ml_X3_44 ⟨by decide, by decide⟩ [.inl ((sw_u τ 2 k.toNat (min (τ 2 k.toNat) w)) 2 (((τ 1 0) - k).toNat)), .inl w] [.inl ((τ 1 0) - k), .inr (.inr 2)] rfl rfl (Nat.le_of_ble_eq_true rfl) 65 rfl (sp_min (sw_u τ 2 k.toNat (min (τ 2 k.toNat) w)) ((sw_u τ 2 k.toNat (min (τ 2 k.toNat) w)) 2 (((τ 1 0) - k).toNat)) w (sw_gs_u hg 2 k.toNat (v := min (τ 2 k.toNat) w) (by have := hg 2 k.toNat; omega) 2 _) (by omega)) (fun r8 σ9 hq10 => ?_)
      obtain ⟨rfl, rfl⟩ := hq10
      refine sw_blk k_X3_addZone 0 65 [(4, .inl k), (0, .inr (.inr 1)), (1, .inl a), (2, .inl b), (3, .inl w)] [.inl (min ((sw_u τ 2 k.toNat (min (τ 2 k.toNat) w)) 2 (((τ 1 0) - k).toNat)) w), .inl ((τ 1 0) - k), .inr (.inr 2)] (sw_u τ 2 k.toNat (min (τ 2 k.toNat) w)) rfl ?_
      refine sw_iast k_X3_addZone rfl (i := 2) (n := 401) rfl (by decide) (by omega) (by omega) 66 rfl ?_
      refine sw_blk k_X3_addZone 2 7 [(4, .inl (k + 1)), (0, .inr (.inr 1)), (1, .inl a), (2, .inl b), (3, .inl w)] [] (sw_u (sw_u τ 2 k.toNat (min (τ 2 k.toNat) w)) 2 (((τ 1 0) - k).toNat) (min ((sw_u τ 2 k.toNat (min (τ 2 k.toNat) w)) 2 (((τ 1 0) - k).toNat)) w)) rfl ?_
      have hk0 := hτ k.toNat (by omega)
      have hd0 := hτ (σ 1 0 - k).toNat (by omega)
      have g1 := hg 2 k.toNat
      have g2 := hg 2 (σ 1 0 - k).toNat
      refine ih (k + 1) _ (by omega) (by omega) (fun i j hi => ?_) (fun x hx => ?_) ?_ (by omega)
      · rw [sw_u_row _ _ hi, sw_u_row _ _ hi]; exact hrow i j hi
      · have hx0 := hτ x hx
        rw [e10]
        by_cases x1 : x = (σ 1 0 - k).toNat
        · subst x1
          rw [sw_u_same]
          by_cases x2 : (σ 1 0 - k).toNat = k.toNat
          · rw [x2, sw_u_same]; omega
          · rw [sw_u_ne _ _ (fun z => x2 z.2)]; omega
        · rw [sw_u_ne _ _ (fun z => x1 z.2)]
          by_cases x2 : x = k.toNat
          · subst x2; rw [sw_u_same]; omega
          · rw [sw_u_ne _ _ (fun z => x2 z.2)]; omega
      · refine sw_gs_u (sw_gs_u hg _ _ (by omega)) _ _ ?_
        have g3 := sw_gs_u hg 2 k.toNat (v := min (τ 2 k.toNat) w) (by omega) 2 (τ 1 0 - k).toNat
        omega
theorem sp_addZone (σ : sw_S) (hσ : sw_gs σ) (a b w : Int) (hab : 0 ≤ a ∧ a ≤ b ∧ b ≤ σ 1 0) (hw : 1 ≤ w ∧ w ≤ 20) (hD : 10 ≤ σ 1 0 ∧ σ 1 0 ≤ 400) : sw_Con sw_ly sw_rho M_X3_addZone [.inr (.inr 1), .inl a, .inl b, .inl w] σ (fun r σ' => r = none ∧ ∃ τ : sw_S, (∀ i j, i ≠ 2 → τ i j = σ i j) ∧ (∀ x : Nat, (x : Int) ≤ σ 1 0 → τ 2 x = (if (a ≤ (x : Int) ∧ (x : Int) < b + 1) ∨ (a ≤ σ 1 0 - x ∧ σ 1 0 - x < b + 1) then min (σ 2 x) w else σ 2 x)) ∧ sw_gs τ ∧ sw_u τ 1 3 (τ 1 3 + 1) = σ') := by
  refine sw_con (by decide) (Nat.le_of_ble_eq_true rfl) ?_
  refine sw_blk k_X3_addZone 2 2 [(0, .inr (.inr 1)), (1, .inl a), (2, .inl b), (3, .inl w)] [.inl 0, .inl a] σ rfl ?_
  refine sw_callS k_X3_addZone rfl cS_J9_max_7cf53 ml_X3_38 ⟨by decide, by decide⟩ [.inl a, .inl 0] [] rfl rfl (Nat.le_of_ble_eq_true rfl) 5 rfl (sp_max σ a 0 (by omega) (by decide)) (fun r1 σ1 hq => ?_)
  obtain ⟨rfl, rfl⟩ := hq
  refine sw_blk k_X3_addZone 1 7 [(4, .inl (max a 0)), (0, .inr (.inr 1)), (1, .inl a), (2, .inl b), (3, .inl w)] [] σ rfl ?_
  rw [show max a 0 = a by omega]
  refine lp_addZone σ hσ a b w hab hw hD _ (fun τ h1 h2 h3 => ⟨rfl, τ, h1, h2, h3, rfl⟩) ((b + 1 - a).toNat + 1) a σ (by omega) (by omega) (fun _ _ _ => rfl) (fun x hx => ?_) hσ (by omega)
  rw [if_neg (by omega)]
