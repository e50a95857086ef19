/-- a zone holds a place, or the other cage's -/
def sw_hit (fr to : Nat → Int) (D x : Int) (z : Nat) : Prop := (fr z ≤ x ∧ x ≤ to z) ∨ (fr z ≤ D - x ∧ D - x ≤ to z)
/-- what the first zones allow at a place, and whether one of them holds it -/
def sw_aw (fr to sp : Nat → Int) (top D x : Int) : Nat → Int × Int
  | 0 => (top, 0)
  | n + 1 => if (fr n ≤ x ∧ x ≤ to n) ∨ (fr n ≤ D - x ∧ D - x ≤ to n) then (if (sw_aw fr to sp top D x n).2 = 0 then (sp n, 1) else if sp n < (sw_aw fr to sp top D x n).1 then (sp n, 1) else ((sw_aw fr to sp top D x n).1, 1)) else sw_aw fr to sp top D x n
theorem lp_allowed (σ : sw_S) (hσ : sw_gs σ) (hz : 0 ≤ σ 26 3 ∧ σ 26 3 ≤ 6) (hD : 10 ≤ σ 26 0 ∧ σ 26 0 ≤ 400) (x : Int) (hx : -5000 ≤ x ∧ x ≤ 5000) (Q : Option sw_Vl → sw_S → Prop) (hQ : Q (some (.inl (sw_aw (σ 27) (σ 28) (σ 29) (σ 26 1) (σ 26 0) x (σ 26 3).toNat).1)) σ) : ∀ (n : Nat) (z : Nat) (mo so : Int), (z : Int) ≤ σ 26 3 → mo = (sw_aw (σ 27) (σ 28) (σ 29) (σ 26 1) (σ 26 0) x z).1 → so = (sw_aw (σ 27) (σ 28) (σ 29) (σ 26 1) (σ 26 0) x z).2 → (so = 0 ∨ so = 1) → sw_g mo → 7 - z < n → sw_E sw_ly sw_rho M_X8_allowed 10 [(4, .inl (z : Int)), (3, .inl so), (2, .inl mo), (0, .inr (.inr 26)), (1, .inl x)] [] σ Q := by
  intro n
  induction n with
  | zero =>
    intro z mo so hzz hm hs h01 gmo hn
    omega
  | succ n ih =>
    intro z mo so hzz hm hs h01 gmo hn
    refine sw_blk k_X8_allowed 3 16 [(4, .inl (z : Int)), (3, .inl so), (2, .inl mo), (0, .inr (.inr 26)), (1, .inl x)] [.inl (σ 26 3), .inl (z : Int)] σ rfl ?_
    refine sw_icmp_ge k_X8_allowed rfl (by omega) (hσ 26 _) 101 19 (by decide) rfl (fun c1 => ?_) (fun c1 => ?_)
    · refine sw_blk k_X8_allowed 1 102 [(4, .inl (z : Int)), (3, .inl so), (2, .inl mo), (0, .inr (.inr 26)), (1, .inl x)] [.inl mo] σ rfl ?_
      refine sw_ireturn k_X8_allowed rfl rfl ?_
      have e : (σ 26 3).toNat = z := by omega
      rw [e, ← hm] at hQ
      exact hQ
    · refine sw_blk k_X8_allowed 4 26 [(4, .inl (z : Int)), (3, .inl so), (2, .inl mo), (0, .inr (.inr 26)), (1, .inl x)] [.inl (z : Int), .inr (.inr 27), .inl x] σ rfl ?_
      refine sw_iald k_X8_allowed rfl (i := 27) (n := 6) rfl (by decide) (by omega) (by omega) 27 rfl ?_
      refine sw_blk k_X8_allowed 3 33 [(4, .inl (z : Int)), (3, .inl so), (2, .inl mo), (0, .inr (.inr 26)), (1, .inl x)] [.inl (z : Int), .inr (.inr 28), .inl (σ 27 z), .inl x] σ rfl ?_
      refine sw_iald k_X8_allowed rfl (i := 28) (n := 6) rfl (by decide) (by omega) (by omega) 34 rfl ?_
      refine sw_blk k_X8_allowed 0 34 [(4, .inl (z : Int)), (3, .inl so), (2, .inl mo), (0, .inr (.inr 26)), (1, .inl x)] [.inl (σ 28 z), .inl (σ 27 z), .inl x] σ rfl ?_
      refine sw_callS k_X8_allowed rfl cS_X8_in ml_X8_87 ⟨by decide, by decide⟩ [.inl x, .inl (σ 27 z), .inl (σ 28 z)] [] rfl rfl (Nat.le_of_ble_eq_true rfl) 37 rfl (sp_in σ x (σ 27 z) (σ 28 z) (by omega) (hσ 27 z) (hσ 28 z)) (fun r3 σ4 hq5 => ?_)
      obtain ⟨rfl, ⟨p2, rfl⟩ | ⟨p2, rfl⟩⟩ := hq5
      · refine sw_blk k_X8_allowed 0 37 [(4, .inl (z : Int)), (3, .inl so), (2, .inl mo), (0, .inr (.inr 26)), (1, .inl x)] [.inl 1] σ rfl ?_
        refine sw_if_ne k_X8_allowed rfl (by decide) 66 40 (by decide) rfl (fun _ => ?_) (fun c => absurd c (by decide))
        refine sw_blk k_X8_allowed 1 67 [(4, .inl (z : Int)), (3, .inl so), (2, .inl mo), (0, .inr (.inr 26)), (1, .inl x)] [.inl so] σ rfl ?_
        refine sw_if_eq k_X8_allowed rfl (by omega) 81 70 (by decide) rfl (fun c6 => ?_) (fun c6 => ?_)
        · refine sw_blk k_X8_allowed 3 87 [(4, .inl (z : Int)), (3, .inl so), (2, .inl mo), (0, .inr (.inr 26)), (1, .inl x)] [.inl (z : Int), .inr (.inr 29)] σ rfl ?_
          refine sw_iald k_X8_allowed rfl (i := 29) (n := 6) rfl (by decide) (by omega) (by omega) 88 rfl ?_
          refine sw_blk k_X8_allowed 6 10 [(4, .inl ((z : Int) + 1)), (3, .inl 1), (2, .inl (σ 29 z)), (0, .inr (.inr 26)), (1, .inl x)] [] σ rfl ?_
          have hh : ((σ 27 z ≤ x ∧ x ≤ σ 28 z) ∨ (σ 27 z ≤ σ 26 0 - x ∧ σ 26 0 - x ≤ σ 28 z)) := by omega
          refine ih (z + 1) _ _ (by omega) ?_ ?_ (by omega) (by first | exact hσ 29 z | exact gmo) (by omega)
          · rw [sw_aw, if_pos hh, ← hs, ← hm]; (try (split <;> (try split) <;> first | rfl | omega))
          · rw [sw_aw, if_pos hh, ← hs, ← hm]; (try (split <;> (try split) <;> first | rfl | omega))
        · refine sw_blk k_X8_allowed 3 76 [(4, .inl (z : Int)), (3, .inl so), (2, .inl mo), (0, .inr (.inr 26)), (1, .inl x)] [.inl (z : Int), .inr (.inr 29)] σ rfl ?_
          refine sw_iald k_X8_allowed rfl (i := 29) (n := 6) rfl (by decide) (by omega) (by omega) 77 rfl ?_
          refine sw_blk k_X8_allowed 1 78 [(4, .inl (z : Int)), (3, .inl so), (2, .inl mo), (0, .inr (.inr 26)), (1, .inl x)] [.inl mo, .inl (σ 29 z)] σ rfl ?_
          refine sw_icmp_ge k_X8_allowed rfl (hσ 29 _) gmo 91 81 (by decide) rfl (fun c7 => ?_) (fun c7 => ?_)
          · refine sw_blk k_X8_allowed 6 10 [(4, .inl ((z : Int) + 1)), (3, .inl 1), (2, .inl mo), (0, .inr (.inr 26)), (1, .inl x)] [] σ rfl ?_
            have hh : ((σ 27 z ≤ x ∧ x ≤ σ 28 z) ∨ (σ 27 z ≤ σ 26 0 - x ∧ σ 26 0 - x ≤ σ 28 z)) := by omega
            refine ih (z + 1) _ _ (by omega) ?_ ?_ (by omega) (by first | exact hσ 29 z | exact gmo) (by omega)
            · rw [sw_aw, if_pos hh, ← hs, ← hm]; (try (split <;> (try split) <;> first | rfl | omega))
            · rw [sw_aw, if_pos hh, ← hs, ← hm]; (try (split <;> (try split) <;> first | rfl | omega))
          · refine sw_blk k_X8_allowed 3 87 [(4, .inl (z : Int)), (3, .inl so), (2, .inl mo), (0, .inr (.inr 26)), (1, .inl x)] [.inl (z : Int), .inr (.inr 29)] σ rfl ?_
            refine sw_iald k_X8_allowed rfl (i := 29) (n := 6) rfl (by decide) (by omega) (by omega) 88 rfl ?_
            refine sw_blk k_X8_allowed 6 10 [(4, .inl ((z : Int) + 1)), (3, .inl 1), (2, .inl (σ 29 z)), (0, .inr (.inr 26)), (1, .inl x)] [] σ rfl ?_
            have hh : ((σ 27 z ≤ x ∧ x ≤ σ 28 z) ∨ (σ 27 z ≤ σ 26 0 - x ∧ σ 26 0 - x ≤ σ 28 z)) := by omega
            refine ih (z + 1) _ _ (by omega) ?_ ?_ (by omega) (by first | exact hσ 29 z | exact gmo) (by omega)
            · rw [sw_aw, if_pos hh, ← hs, ← hm]; (try (split <;> (try split) <;> first | rfl | omega))
            · rw [sw_aw, if_pos hh, ← hs, ← hm]; (try (split <;> (try split) <;> first | rfl | omega))
      · refine sw_blk k_X8_allowed 0 37 [(4, .inl (z : Int)), (3, .inl so), (2, .inl mo), (0, .inr (.inr 26)), (1, .inl x)] [.inl 0] σ rfl ?_
        refine sw_if_ne k_X8_allowed rfl (by decide) 66 40 (by decide) rfl (fun c => absurd (by decide) c) (fun _ => ?_)
        refine sw_blk k_X8_allowed 7 52 [(4, .inl (z : Int)), (3, .inl so), (2, .inl mo), (0, .inr (.inr 26)), (1, .inl x)] [.inl (z : Int), .inr (.inr 27), .inl ((σ 26 0) - x)] σ rfl ?_
        refine sw_iald k_X8_allowed rfl (i := 27) (n := 6) rfl (by decide) (by omega) (by omega) 53 rfl ?_
        refine sw_blk k_X8_allowed 3 59 [(4, .inl (z : Int)), (3, .inl so), (2, .inl mo), (0, .inr (.inr 26)), (1, .inl x)] [.inl (z : Int), .inr (.inr 28), .inl (σ 27 z), .inl ((σ 26 0) - x)] σ rfl ?_
        refine sw_iald k_X8_allowed rfl (i := 28) (n := 6) rfl (by decide) (by omega) (by omega) 60 rfl ?_
        refine sw_blk k_X8_allowed 0 60 [(4, .inl (z : Int)), (3, .inl so), (2, .inl mo), (0, .inr (.inr 26)), (1, .inl x)] [.inl (σ 28 z), .inl (σ 27 z), .inl ((σ 26 0) - x)] σ rfl ?_
        refine sw_callS k_X8_allowed rfl cS_X8_in ml_X8_87 ⟨by decide, by decide⟩ [.inl ((σ 26 0) - x), .inl (σ 27 z), .inl (σ 28 z)] [] rfl rfl (Nat.le_of_ble_eq_true rfl) 63 rfl (sp_in σ ((σ 26 0) - x) (σ 27 z) (σ 28 z) (by omega) (hσ 27 z) (hσ 28 z)) (fun r9 σ10 hq11 => ?_)
        obtain ⟨rfl, ⟨p8, rfl⟩ | ⟨p8, rfl⟩⟩ := hq11
        · refine sw_blk k_X8_allowed 0 63 [(4, .inl (z : Int)), (3, .inl so), (2, .inl mo), (0, .inr (.inr 26)), (1, .inl x)] [.inl 1] σ rfl ?_
          refine sw_if_eq k_X8_allowed rfl (by decide) 95 66 (by decide) rfl (fun c => absurd c (by decide)) (fun _ => ?_)
          refine sw_blk k_X8_allowed 1 67 [(4, .inl (z : Int)), (3, .inl so), (2, .inl mo), (0, .inr (.inr 26)), (1, .inl x)] [.inl so] σ rfl ?_
          refine sw_if_eq k_X8_allowed rfl (by omega) 81 70 (by decide) rfl (fun c12 => ?_) (fun c12 => ?_)
          · refine sw_blk k_X8_allowed 3 87 [(4, .inl (z : Int)), (3, .inl so), (2, .inl mo), (0, .inr (.inr 26)), (1, .inl x)] [.inl (z : Int), .inr (.inr 29)] σ rfl ?_
            refine sw_iald k_X8_allowed rfl (i := 29) (n := 6) rfl (by decide) (by omega) (by omega) 88 rfl ?_
            refine sw_blk k_X8_allowed 6 10 [(4, .inl ((z : Int) + 1)), (3, .inl 1), (2, .inl (σ 29 z)), (0, .inr (.inr 26)), (1, .inl x)] [] σ rfl ?_
            have hh : ((σ 27 z ≤ x ∧ x ≤ σ 28 z) ∨ (σ 27 z ≤ σ 26 0 - x ∧ σ 26 0 - x ≤ σ 28 z)) := by omega
            refine ih (z + 1) _ _ (by omega) ?_ ?_ (by omega) (by first | exact hσ 29 z | exact gmo) (by omega)
            · rw [sw_aw, if_pos hh, ← hs, ← hm]; (try (split <;> (try split) <;> first | rfl | omega))
            · rw [sw_aw, if_pos hh, ← hs, ← hm]; (try (split <;> (try split) <;> first | rfl | omega))
          · refine sw_blk k_X8_allowed 3 76 [(4, .inl (z : Int)), (3, .inl so), (2, .inl mo), (0, .inr (.inr 26)), (1, .inl x)] [.inl (z : Int), .inr (.inr 29)] σ rfl ?_
            refine sw_iald k_X8_allowed rfl (i := 29) (n := 6) rfl (by decide) (by omega) (by omega) 77 rfl ?_
            refine sw_blk k_X8_allowed 1 78 [(4, .inl (z : Int)), (3, .inl so), (2, .inl mo), (0, .inr (.inr 26)), (1, .inl x)] [.inl mo, .inl (σ 29 z)] σ rfl ?_
            refine sw_icmp_ge k_X8_allowed rfl (hσ 29 _) gmo 91 81 (by decide) rfl (fun c13 => ?_) (fun c13 => ?_)
            · refine sw_blk k_X8_allowed 6 10 [(4, .inl ((z : Int) + 1)), (3, .inl 1), (2, .inl mo), (0, .inr (.inr 26)), (1, .inl x)] [] σ rfl ?_
              have hh : ((σ 27 z ≤ x ∧ x ≤ σ 28 z) ∨ (σ 27 z ≤ σ 26 0 - x ∧ σ 26 0 - x ≤ σ 28 z)) := by omega
              refine ih (z + 1) _ _ (by omega) ?_ ?_ (by omega) (by first | exact hσ 29 z | exact gmo) (by omega)
              · rw [sw_aw, if_pos hh, ← hs, ← hm]; (try (split <;> (try split) <;> first | rfl | omega))
              · rw [sw_aw, if_pos hh, ← hs, ← hm]; (try (split <;> (try split) <;> first | rfl | omega))
            · refine sw_blk k_X8_allowed 3 87 [(4, .inl (z : Int)), (3, .inl so), (2, .inl mo), (0, .inr (.inr 26)), (1, .inl x)] [.inl (z : Int), .inr (.inr 29)] σ rfl ?_
              refine sw_iald k_X8_allowed rfl (i := 29) (n := 6) rfl (by decide) (by omega) (by omega) 88 rfl ?_
              refine sw_blk k_X8_allowed 6 10 [(4, .inl ((z : Int) + 1)), (3, .inl 1), (2, .inl (σ 29 z)), (0, .inr (.inr 26)), (1, .inl x)] [] σ rfl ?_
              have hh : ((σ 27 z ≤ x ∧ x ≤ σ 28 z) ∨ (σ 27 z ≤ σ 26 0 - x ∧ σ 26 0 - x ≤ σ 28 z)) := by omega
              refine ih (z + 1) _ _ (by omega) ?_ ?_ (by omega) (by first | exact hσ 29 z | exact gmo) (by omega)
              · rw [sw_aw, if_pos hh, ← hs, ← hm]; (try (split <;> (try split) <;> first | rfl | omega))
              · rw [sw_aw, if_pos hh, ← hs, ← hm]; (try (split <;> (try split) <;> first | rfl | omega))
        · refine sw_blk k_X8_allowed 0 63 [(4, .inl (z : Int)), (3, .inl so), (2, .inl mo), (0, .inr (.inr 26)), (1, .inl x)] [.inl 0] σ rfl ?_
          refine sw_if_eq k_X8_allowed rfl (by decide) 95 66 (by decide) rfl (fun _ => ?_) (fun c => absurd (by decide) c)
          refine sw_blk k_X8_allowed 2 10 [(4, .inl ((z : Int) + 1)), (3, .inl so), (2, .inl mo), (0, .inr (.inr 26)), (1, .inl x)] [] σ rfl ?_
          have hh : ¬ ((σ 27 z ≤ x ∧ x ≤ σ 28 z) ∨ (σ 27 z ≤ σ 26 0 - x ∧ σ 26 0 - x ≤ σ 28 z)) := by omega
          refine ih (z + 1) _ _ (by omega) ?_ ?_ (by omega) (by first | exact hσ 29 z | exact gmo) (by omega)
          · rw [sw_aw, if_neg hh]; exact hm
          · rw [sw_aw, if_neg hh]; exact hs
theorem sp_allowed (σ : sw_S) (hσ : sw_gs σ) (hz : 0 ≤ σ 26 3 ∧ σ 26 3 ≤ 6) (hD : 10 ≤ σ 26 0 ∧ σ 26 0 ≤ 400) (x : Int) (hx : -5000 ≤ x ∧ x ≤ 5000) : sw_Con sw_ly sw_rho M_X8_allowed [.inr (.inr 26), .inl x] σ (fun r σ' => σ = σ' ∧ r = some (.inl ((sw_aw (σ 27) (σ 28) (σ 29) (σ 26 1) (σ 26 0) x (σ 26 3).toNat).1))) := by
  refine sw_con (by decide) (Nat.le_of_ble_eq_true rfl) ?_
  refine sw_blk k_X8_allowed 7 10 [(4, .inl 0), (3, .inl 0), (2, .inl (σ 26 1)), (0, .inr (.inr 26)), (1, .inl x)] [] σ rfl ?_
  exact lp_allowed σ hσ hz hD x hx _ ⟨rfl, rfl⟩ 8 0 _ 0 (by omega) rfl rfl (Or.inl rfl) (hσ 26 1) (by omega)
theorem lp_isTick (σ : sw_S) (hσ : sw_gs σ) (fr sz p v : Int) (hfr : 0 ≤ fr ∧ fr + sz ≤ 400) (hsz : 0 ≤ sz ∧ sz ≤ 20) (Q : Option sw_Vl → sw_S → Prop) (hQ1 : (∀ y : Int, fr ≤ y → y ≤ fr + sz → sz ≤ σ 35 y.toNat) → Q (some (.inl 1)) σ) (hQ0 : ∀ y : Int, fr ≤ y → y ≤ fr + sz → ¬ sz ≤ σ 35 y.toNat → Q (some (.inl 0)) σ) : ∀ (n : Nat) (x : Int), (fr ≤ x ∧ x ≤ fr + sz + 1) → (∀ y : Int, fr ≤ y → y < x → sz ≤ σ 35 y.toNat) → (fr + sz + 1 - x).toNat < n → sw_E sw_ly sw_rho M_X8_isTick 48 [(5, .inl x), (4, .inl fr), (3, .inl sz), (0, .inr (.inr 26)), (1, .inl p), (2, .inl v)] [] σ Q := by
  intro n
  induction n with
  | zero =>
    intro x hx hlt hn
    omega
  | succ n ih =>
    intro x hx hlt hn
    refine sw_blk k_X8_isTick 4 54 [(5, .inl x), (4, .inl fr), (3, .inl sz), (0, .inr (.inr 26)), (1, .inl p), (2, .inl v)] [.inl (fr + sz), .inl x] σ rfl ?_
    refine sw_icmp_gt k_X8_isTick rfl (by omega) (by omega) 76 57 (by decide) rfl (fun c1 => ?_) (fun c1 => ?_)
    · refine sw_blk k_X8_isTick 1 77 [(5, .inl x), (4, .inl fr), (3, .inl sz), (0, .inr (.inr 26)), (1, .inl p), (2, .inl v)] [.inl 1] σ rfl ?_
      refine sw_zreturn k_X8_isTick rfl rfl (by decide) ?_
      exact hQ1 (fun y y1 y2 => hlt y y1 (by omega))
    · refine sw_blk k_X8_isTick 4 64 [(5, .inl x), (4, .inl fr), (3, .inl sz), (0, .inr (.inr 26)), (1, .inl p), (2, .inl v)] [.inl x, .inr (.inr 35), .inl sz] σ rfl ?_
      refine sw_iald k_X8_isTick rfl (i := 35) (n := 401) rfl (by decide) (by omega) (by omega) 65 rfl ?_
      refine sw_blk k_X8_isTick 0 65 [(5, .inl x), (4, .inl fr), (3, .inl sz), (0, .inr (.inr 26)), (1, .inl p), (2, .inl v)] [.inl (σ 35 x.toNat), .inl sz] σ rfl ?_
      refine sw_icmp_le k_X8_isTick rfl (by omega) (hσ 35 _) 70 68 (by decide) rfl (fun c2 => ?_) (fun c2 => ?_)
      · refine sw_blk k_X8_isTick 2 48 [(5, .inl (x + 1)), (4, .inl fr), (3, .inl sz), (0, .inr (.inr 26)), (1, .inl p), (2, .inl v)] [] σ rfl ?_
        exact ih (x + 1) (by omega) (fun y y1 y2 => by rcases Int.lt_or_le y x with zz | zz; exact hlt y y1 zz; rw [show y = x by omega]; omega) (by omega)
      · refine sw_blk k_X8_isTick 1 69 [(5, .inl x), (4, .inl fr), (3, .inl sz), (0, .inr (.inr 26)), (1, .inl p), (2, .inl v)] [.inl 0] σ rfl ?_
        refine sw_zreturn k_X8_isTick rfl rfl (by decide) ?_
        exact hQ0 x (by omega) (by omega) (by omega)
theorem sp_isTick (σ : sw_S) (hσ : sw_gs σ) (p v : Int) (hp : 0 ≤ p ∧ p ≤ σ 26 0) (hD : 10 ≤ σ 26 0 ∧ σ 26 0 ≤ 400) (hV : 1 ≤ σ 26 1 ∧ σ 26 1 ≤ 20) (hv : -1000 ≤ v ∧ v ≤ 1000) : sw_Con sw_ly sw_rho M_X8_isTick [.inr (.inr 26), .inl p, .inl v] σ (fun r σ' => σ = σ' ∧ ((sw_tk (σ 35) (σ 26 0) (σ 26 1) p v) ∧ r = some (.inl 1) ∨ ¬ (sw_tk (σ 35) (σ 26 0) (σ 26 1) p v) ∧ r = some (.inl 0))) := by
  refine sw_con (by decide) (Nat.le_of_ble_eq_true rfl) ?_
  refine sw_blk k_X8_isTick 1 1 [(0, .inr (.inr 26)), (1, .inl p), (2, .inl v)] [.inl v] σ rfl ?_
  refine sw_if_ge k_X8_isTick rfl (by omega) 9 4 (by decide) rfl (fun c1 => ?_) (fun c1 => ?_)
  · refine sw_blk k_X8_isTick 5 16 [(3, .inl v), (0, .inr (.inr 26)), (1, .inl p), (2, .inl v)] [.inl (σ 26 1), .inl v] σ rfl ?_
    refine sw_icmp_gt k_X8_isTick rfl (by omega) (hσ 26 _) 29 19 (by decide) rfl (fun c2 => ?_) (fun c2 => ?_)
    · refine sw_blk k_X8_isTick 1 30 [(3, .inl v), (0, .inr (.inr 26)), (1, .inl p), (2, .inl v)] [.inl 0] σ rfl ?_
      refine sw_zreturn k_X8_isTick rfl rfl (by decide) ?_
      exact ⟨rfl, Or.inr ⟨fun q9 => by have z1 := q9.1; have z2 := q9.2.1; have z3 := q9.2.2.1; unfold sw_abs at z1; omega, rfl⟩⟩
    · refine sw_blk k_X8_isTick 4 23 [(3, .inl v), (0, .inr (.inr 26)), (1, .inl p), (2, .inl v)] [.inl (p + v), .inr (.inr 26)] σ rfl ?_
      refine sw_callV k_X8_isTick rfl cV_X8_isPlace ml_X8_103 ⟨by decide, by decide⟩ 26 rfl rfl [.inl (p + v)] [] rfl rfl (Nat.le_of_ble_eq_true rfl) 26 rfl (sp_mPlace σ (p + v) (by omega) (hσ 26 0)) (fun r4 σ5 hq6 => ?_)
      obtain ⟨rfl, ⟨p3, rfl⟩ | ⟨p3, rfl⟩⟩ := hq6
      · have p3 : 0 ≤ (p + v) ∧ (p + v) ≤ (σ 26 0) := p3
        refine sw_blk k_X8_isTick 0 26 [(3, .inl v), (0, .inr (.inr 26)), (1, .inl p), (2, .inl v)] [.inl 1] σ rfl ?_
        refine sw_if_ne k_X8_isTick rfl (by decide) 31 29 (by decide) rfl (fun _ => ?_) (fun c => absurd c (by decide))
        refine sw_blk k_X8_isTick 1 32 [(3, .inl v), (0, .inr (.inr 26)), (1, .inl p), (2, .inl v)] [.inl v] σ rfl ?_
        refine sw_if_ge k_X8_isTick rfl (by omega) 41 35 (by decide) rfl (fun c7 => ?_) (fun c7 => ?_)
        · refine sw_blk k_X8_isTick 4 48 [(5, .inl p), (4, .inl p), (3, .inl v), (0, .inr (.inr 26)), (1, .inl p), (2, .inl v)] [] σ rfl ?_
          have ea : sw_abs v = v := by unfold sw_abs; omega
          refine lp_isTick σ hσ p v p v (by omega) (by omega) _ (fun hall => ⟨rfl, Or.inl ⟨⟨by rw [ea]; omega, by omega, by omega, fun y hy => by rw [ea]; exact hall y (by omega) (by omega)⟩, rfl⟩⟩) (fun y y1 y2 y3 => ⟨rfl, Or.inr ⟨fun q9 => y3 (by have := q9.2.2.2 y (by omega); rw [ea] at this; exact this), rfl⟩⟩) 500 _ (by omega) (fun y y1 y2 => by omega) (by omega)
        · refine sw_blk k_X8_isTick 7 48 [(5, .inl (p + v)), (4, .inl (p + v)), (3, .inl v), (0, .inr (.inr 26)), (1, .inl p), (2, .inl v)] [] σ rfl ?_
          have ea : sw_abs v = v := by unfold sw_abs; omega
          refine lp_isTick σ hσ (p + v) v p v (by omega) (by omega) _ (fun hall => ⟨rfl, Or.inl ⟨⟨by rw [ea]; omega, by omega, by omega, fun y hy => by rw [ea]; exact hall y (by omega) (by omega)⟩, rfl⟩⟩) (fun y y1 y2 y3 => ⟨rfl, Or.inr ⟨fun q9 => y3 (by have := q9.2.2.2 y (by omega); rw [ea] at this; exact this), rfl⟩⟩) 500 _ (by omega) (fun y y1 y2 => by omega) (by omega)
      · have p3 : ¬ (0 ≤ (p + v) ∧ (p + v) ≤ (σ 26 0)) := p3
        refine sw_blk k_X8_isTick 0 26 [(3, .inl v), (0, .inr (.inr 26)), (1, .inl p), (2, .inl v)] [.inl 0] σ rfl ?_
        refine sw_if_ne k_X8_isTick rfl (by decide) 31 29 (by decide) rfl (fun c => absurd (by decide) c) (fun _ => ?_)
        refine sw_blk k_X8_isTick 1 30 [(3, .inl v), (0, .inr (.inr 26)), (1, .inl p), (2, .inl v)] [.inl 0] σ rfl ?_
        refine sw_zreturn k_X8_isTick rfl rfl (by decide) ?_
        exact ⟨rfl, Or.inr ⟨fun q9 => by have z1 := q9.1; have z2 := q9.2.1; have z3 := q9.2.2.1; unfold sw_abs at z1; omega, rfl⟩⟩
  · refine sw_blk k_X8_isTick 7 16 [(3, .inl (-v)), (0, .inr (.inr 26)), (1, .inl p), (2, .inl v)] [.inl (σ 26 1), .inl (-v)] σ rfl ?_
    refine sw_icmp_gt k_X8_isTick rfl (by omega) (hσ 26 _) 29 19 (by decide) rfl (fun c8 => ?_) (fun c8 => ?_)
    · refine sw_blk k_X8_isTick 1 30 [(3, .inl (-v)), (0, .inr (.inr 26)), (1, .inl p), (2, .inl v)] [.inl 0] σ rfl ?_
      refine sw_zreturn k_X8_isTick rfl rfl (by decide) ?_
      exact ⟨rfl, Or.inr ⟨fun q9 => by have z1 := q9.1; have z2 := q9.2.1; have z3 := q9.2.2.1; unfold sw_abs at z1; omega, rfl⟩⟩
    · refine sw_blk k_X8_isTick 4 23 [(3, .inl (-v)), (0, .inr (.inr 26)), (1, .inl p), (2, .inl v)] [.inl (p + v), .inr (.inr 26)] σ rfl ?_
      refine sw_callV k_X8_isTick rfl cV_X8_isPlace ml_X8_103 ⟨by decide, by decide⟩ 26 rfl rfl [.inl (p + v)] [] rfl rfl (Nat.le_of_ble_eq_true rfl) 26 rfl (sp_mPlace σ (p + v) (by omega) (hσ 26 0)) (fun r10 σ11 hq12 => ?_)
      obtain ⟨rfl, ⟨p9, rfl⟩ | ⟨p9, rfl⟩⟩ := hq12
      · have p9 : 0 ≤ (p + v) ∧ (p + v) ≤ (σ 26 0) := p9
        refine sw_blk k_X8_isTick 0 26 [(3, .inl (-v)), (0, .inr (.inr 26)), (1, .inl p), (2, .inl v)] [.inl 1] σ rfl ?_
        refine sw_if_ne k_X8_isTick rfl (by decide) 31 29 (by decide) rfl (fun _ => ?_) (fun c => absurd c (by decide))
        refine sw_blk k_X8_isTick 1 32 [(3, .inl (-v)), (0, .inr (.inr 26)), (1, .inl p), (2, .inl v)] [.inl v] σ rfl ?_
        refine sw_if_ge k_X8_isTick rfl (by omega) 41 35 (by decide) rfl (fun c13 => ?_) (fun c13 => ?_)
        · refine sw_blk k_X8_isTick 4 48 [(5, .inl p), (4, .inl p), (3, .inl (-v)), (0, .inr (.inr 26)), (1, .inl p), (2, .inl v)] [] σ rfl ?_
          have ea : sw_abs v = (-v) := by unfold sw_abs; omega
          refine lp_isTick σ hσ p (-v) p v (by omega) (by omega) _ (fun hall => ⟨rfl, Or.inl ⟨⟨by rw [ea]; omega, by omega, by omega, fun y hy => by rw [ea]; exact hall y (by omega) (by omega)⟩, rfl⟩⟩) (fun y y1 y2 y3 => ⟨rfl, Or.inr ⟨fun q9 => y3 (by have := q9.2.2.2 y (by omega); rw [ea] at this; exact this), rfl⟩⟩) 500 _ (by omega) (fun y y1 y2 => by omega) (by omega)
        · refine sw_blk k_X8_isTick 7 48 [(5, .inl (p + v)), (4, .inl (p + v)), (3, .inl (-v)), (0, .inr (.inr 26)), (1, .inl p), (2, .inl v)] [] σ rfl ?_
          have ea : sw_abs v = (-v) := by unfold sw_abs; omega
          refine lp_isTick σ hσ (p + v) (-v) p v (by omega) (by omega) _ (fun hall => ⟨rfl, Or.inl ⟨⟨by rw [ea]; omega, by omega, by omega, fun y hy => by rw [ea]; exact hall y (by omega) (by omega)⟩, rfl⟩⟩) (fun y y1 y2 y3 => ⟨rfl, Or.inr ⟨fun q9 => y3 (by have := q9.2.2.2 y (by omega); rw [ea] at this; exact this), rfl⟩⟩) 500 _ (by omega) (fun y y1 y2 => by omega) (by omega)
      · have p9 : ¬ (0 ≤ (p + v) ∧ (p + v) ≤ (σ 26 0)) := p9
        refine sw_blk k_X8_isTick 0 26 [(3, .inl (-v)), (0, .inr (.inr 26)), (1, .inl p), (2, .inl v)] [.inl 0] σ rfl ?_
        refine sw_if_ne k_X8_isTick rfl (by decide) 31 29 (by decide) rfl (fun c => absurd (by decide) c) (fun _ => ?_)
        refine sw_blk k_X8_isTick 1 30 [(3, .inl (-v)), (0, .inr (.inr 26)), (1, .inl p), (2, .inl v)] [.inl 0] σ rfl ?_
        refine sw_zreturn k_X8_isTick rfl rfl (by decide) ?_
        exact ⟨rfl, Or.inr ⟨fun q9 => by have z1 := q9.1; have z2 := q9.2.1; have z3 := q9.2.2.1; unfold sw_abs at z1; omega, rfl⟩⟩
