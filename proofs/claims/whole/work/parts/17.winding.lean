def sw_told (p a b c : Int) : Int := p + a + b + c - min a (min b c) - max a (max b c)
def sw_la (lim : Nat → Int) (D V x : Int) : Int := if 0 ≤ x ∧ x ≤ D then lim x.toNat else V
def sw_s1 (br v : Int) : Int := if 0 < v then max (v - br) 0 else min (v + br) 0
def sw_sv (D br p v : Int) : Int := if 0 ≤ p + sw_s1 br v ∧ p + sw_s1 br v ≤ D then sw_s1 br v else 0
def sw_sp (D br p v : Int) : Int := if 0 ≤ p + sw_s1 br v ∧ p + sw_s1 br v ≤ D then p + sw_s1 br v else if p + sw_s1 br v < 0 then 0 else D
theorem sp_slow (σ : sw_S) (hσ : sw_gs σ) (hD : 10 ≤ σ 1 0 ∧ σ 1 0 ≤ 400) (hpl : 0 ≤ σ 5 7 ∧ σ 5 7 ≤ σ 1 0) (hspd : -20 ≤ σ 5 8 ∧ σ 5 8 ≤ 20) (hbr : 1 ≤ σ 5 12 ∧ σ 5 12 ≤ 10) : sw_Con sw_ly sw_rho M_X6_slowDown [.inr (.inr 5)] σ (fun r σ' => r = none ∧ (∀ i j, ¬ (i = 5 ∧ (j = 7 ∨ j = 8 ∨ j = 9)) → σ' i j = σ i j) ∧ σ' 5 7 = sw_sp (σ 1 0) (σ 5 12) (σ 5 7) (σ 5 8) ∧ σ' 5 8 = sw_sv (σ 1 0) (σ 5 12) (σ 5 7) (σ 5 8) ∧ σ' 5 9 = (if sw_sv (σ 1 0) (σ 5 12) (σ 5 7) (σ 5 8) = 0 then 0 else σ 5 9)) := by
  refine sw_con (by decide) (Nat.le_of_ble_eq_true rfl) ?_
  refine sw_blk k_X6_slowDown 3 5 [(0, .inr (.inr 5))] [.inl (σ 5 8), .inr (.inr 5)] σ rfl ?_
  refine sw_if_le k_X6_slowDown rfl (hσ 5 _) 24 8 (by decide) rfl (fun c1 => ?_) (fun c1 => ?_)
  · refine sw_blk k_X6_slowDown 6 34 [(0, .inr (.inr 5))] [.inl 0, .inl ((σ 5 8) + (σ 5 12)), .inr (.inr 5)] σ rfl ?_
    refine sw_callS k_X6_slowDown rfl cS_J9_min_7cf53 ml_X6_43 ⟨by decide, by decide⟩ [.inl ((σ 5 8) + (σ 5 12)), .inl 0] [.inr (.inr 5)] rfl rfl (Nat.le_of_ble_eq_true rfl) 37 rfl (sp_min σ ((σ 5 8) + (σ 5 12)) 0 (by omega) (by decide)) (fun r2 σ3 hq4 => ?_)
    obtain ⟨rfl, rfl⟩ := hq4
    refine sw_blk k_X6_slowDown 12 61 [(0, .inr (.inr 5))] [.inl ((σ 5 7) + (min ((σ 5 8) + (σ 5 12)) 0)), .inr (.inr 1)] (sw_u (sw_u σ 5 8 (min ((σ 5 8) + (σ 5 12)) 0)) 5 7 ((σ 5 7) + (min ((σ 5 8) + (σ 5 12)) 0))) rfl ?_
    refine sw_callV k_X6_slowDown rfl cV_X3_has ml_X6_106 ⟨by decide, by decide⟩ 1 rfl rfl [.inl ((σ 5 7) + (min ((σ 5 8) + (σ 5 12)) 0))] [] rfl rfl (Nat.le_of_ble_eq_true rfl) 64 rfl (sp_has (sw_u (sw_u σ 5 8 (min ((σ 5 8) + (σ 5 12)) 0)) 5 7 ((σ 5 7) + (min ((σ 5 8) + (σ 5 12)) 0))) ((σ 5 7) + (min ((σ 5 8) + (σ 5 12)) 0)) (by omega) (hσ 1 0)) (fun r6 σ7 hq8 => ?_)
    obtain ⟨rfl, ⟨p5, rfl⟩ | ⟨p5, rfl⟩⟩ := hq8
    · have p5 : 0 ≤ ((σ 5 7) + (min ((σ 5 8) + (σ 5 12)) 0)) ∧ ((σ 5 7) + (min ((σ 5 8) + (σ 5 12)) 0)) ≤ (σ 1 0) := p5
      refine sw_blk k_X6_slowDown 0 64 [(0, .inr (.inr 5))] [.inl 1] (sw_u (sw_u σ 5 8 (min ((σ 5 8) + (σ 5 12)) 0)) 5 7 ((σ 5 7) + (min ((σ 5 8) + (σ 5 12)) 0))) rfl ?_
      refine sw_if_ne k_X6_slowDown rfl (by decide) 94 67 (by decide) rfl (fun _ => ?_) (fun c => absurd c (by decide))
      refine sw_blk k_X6_slowDown 2 98 [(0, .inr (.inr 5))] [.inl (min ((σ 5 8) + (σ 5 12)) 0)] (sw_u (sw_u σ 5 8 (min ((σ 5 8) + (σ 5 12)) 0)) 5 7 ((σ 5 7) + (min ((σ 5 8) + (σ 5 12)) 0))) rfl ?_
      refine sw_if_ne k_X6_slowDown rfl (by omega) 106 101 (by decide) rfl (fun c9 => ?_) (fun c9 => ?_)
      · refine sw_vreturn k_X6_slowDown rfl rfl ?_
        exact ⟨rfl, (fun i j h => by unfold sw_u; (repeat rw [if_neg (by omega)])), (show (((σ 5 7) + (min ((σ 5 8) + (σ 5 12)) 0)) : Int) = sw_sp (σ 1 0) (σ 5 12) (σ 5 7) (σ 5 8) from by unfold sw_sp sw_s1; omega), (show ((min ((σ 5 8) + (σ 5 12)) 0) : Int) = sw_sv (σ 1 0) (σ 5 12) (σ 5 7) (σ 5 8) from by unfold sw_sv sw_s1; omega), (show ((σ 5 9) : Int) = (if sw_sv (σ 1 0) (σ 5 12) (σ 5 7) (σ 5 8) = 0 then 0 else σ 5 9) from by unfold sw_sv sw_s1; omega)⟩
      · refine sw_blk k_X6_slowDown 3 106 [(0, .inr (.inr 5))] [] (sw_u (sw_u (sw_u σ 5 8 (min ((σ 5 8) + (σ 5 12)) 0)) 5 7 ((σ 5 7) + (min ((σ 5 8) + (σ 5 12)) 0))) 5 9 0) rfl ?_
        refine sw_vreturn k_X6_slowDown rfl rfl ?_
        exact ⟨rfl, (fun i j h => by unfold sw_u; (repeat rw [if_neg (by omega)])), (show (((σ 5 7) + (min ((σ 5 8) + (σ 5 12)) 0)) : Int) = sw_sp (σ 1 0) (σ 5 12) (σ 5 7) (σ 5 8) from by unfold sw_sp sw_s1; omega), (show ((min ((σ 5 8) + (σ 5 12)) 0) : Int) = sw_sv (σ 1 0) (σ 5 12) (σ 5 7) (σ 5 8) from by unfold sw_sv sw_s1; omega), (show (0 : Int) = (if sw_sv (σ 1 0) (σ 5 12) (σ 5 7) (σ 5 8) = 0 then 0 else σ 5 9) from by unfold sw_sv sw_s1; omega)⟩
    · have p5 : ¬ (0 ≤ ((σ 5 7) + (min ((σ 5 8) + (σ 5 12)) 0)) ∧ ((σ 5 7) + (min ((σ 5 8) + (σ 5 12)) 0)) ≤ (σ 1 0)) := p5
      refine sw_blk k_X6_slowDown 0 64 [(0, .inr (.inr 5))] [.inl 0] (sw_u (sw_u σ 5 8 (min ((σ 5 8) + (σ 5 12)) 0)) 5 7 ((σ 5 7) + (min ((σ 5 8) + (σ 5 12)) 0))) rfl ?_
      refine sw_if_ne k_X6_slowDown rfl (by decide) 94 67 (by decide) rfl (fun c => absurd (by decide) c) (fun _ => ?_)
      refine sw_blk k_X6_slowDown 3 72 [(0, .inr (.inr 5))] [.inl ((σ 5 7) + (min ((σ 5 8) + (σ 5 12)) 0)), .inr (.inr 5)] (sw_u (sw_u σ 5 8 (min ((σ 5 8) + (σ 5 12)) 0)) 5 7 ((σ 5 7) + (min ((σ 5 8) + (σ 5 12)) 0))) rfl ?_
      refine sw_if_ge k_X6_slowDown rfl (by omega) 79 75 (by decide) rfl (fun c10 => ?_) (fun c10 => ?_)
      · refine sw_blk k_X6_slowDown 9 98 [(0, .inr (.inr 5))] [.inl 0] (sw_u (sw_u (sw_u (sw_u σ 5 8 (min ((σ 5 8) + (σ 5 12)) 0)) 5 7 ((σ 5 7) + (min ((σ 5 8) + (σ 5 12)) 0))) 5 7 (σ 1 0)) 5 8 0) rfl ?_
        refine sw_if_ne k_X6_slowDown rfl (by decide) 106 101 (by decide) rfl (fun c => absurd (by decide) c) (fun _ => ?_)
        refine sw_blk k_X6_slowDown 3 106 [(0, .inr (.inr 5))] [] (sw_u (sw_u (sw_u (sw_u (sw_u σ 5 8 (min ((σ 5 8) + (σ 5 12)) 0)) 5 7 ((σ 5 7) + (min ((σ 5 8) + (σ 5 12)) 0))) 5 7 (σ 1 0)) 5 8 0) 5 9 0) rfl ?_
        refine sw_vreturn k_X6_slowDown rfl rfl ?_
        exact ⟨rfl, (fun i j h => by unfold sw_u; (repeat rw [if_neg (by omega)])), (show ((σ 1 0) : Int) = sw_sp (σ 1 0) (σ 5 12) (σ 5 7) (σ 5 8) from by unfold sw_sp sw_s1; omega), (show (0 : Int) = sw_sv (σ 1 0) (σ 5 12) (σ 5 7) (σ 5 8) from by unfold sw_sv sw_s1; omega), (show (0 : Int) = (if sw_sv (σ 1 0) (σ 5 12) (σ 5 7) (σ 5 8) = 0 then 0 else σ 5 9) from by unfold sw_sv sw_s1; omega)⟩
      · refine sw_blk k_X6_slowDown 8 98 [(0, .inr (.inr 5))] [.inl 0] (sw_u (sw_u (sw_u (sw_u σ 5 8 (min ((σ 5 8) + (σ 5 12)) 0)) 5 7 ((σ 5 7) + (min ((σ 5 8) + (σ 5 12)) 0))) 5 7 0) 5 8 0) rfl ?_
        refine sw_if_ne k_X6_slowDown rfl (by decide) 106 101 (by decide) rfl (fun c => absurd (by decide) c) (fun _ => ?_)
        refine sw_blk k_X6_slowDown 3 106 [(0, .inr (.inr 5))] [] (sw_u (sw_u (sw_u (sw_u (sw_u σ 5 8 (min ((σ 5 8) + (σ 5 12)) 0)) 5 7 ((σ 5 7) + (min ((σ 5 8) + (σ 5 12)) 0))) 5 7 0) 5 8 0) 5 9 0) rfl ?_
        refine sw_vreturn k_X6_slowDown rfl rfl ?_
        exact ⟨rfl, (fun i j h => by unfold sw_u; (repeat rw [if_neg (by omega)])), (show (0 : Int) = sw_sp (σ 1 0) (σ 5 12) (σ 5 7) (σ 5 8) from by unfold sw_sp sw_s1; omega), (show (0 : Int) = sw_sv (σ 1 0) (σ 5 12) (σ 5 7) (σ 5 8) from by unfold sw_sv sw_s1; omega), (show (0 : Int) = (if sw_sv (σ 1 0) (σ 5 12) (σ 5 7) (σ 5 8) = 0 then 0 else σ 5 9) from by unfold sw_sv sw_s1; omega)⟩
  · refine sw_blk k_X6_slowDown 6 18 [(0, .inr (.inr 5))] [.inl 0, .inl ((σ 5 8) - (σ 5 12)), .inr (.inr 5)] σ rfl ?_
    refine sw_callS k_X6_slowDown rfl cS_J9_max_7cf53 ml_X6_49 ⟨by decide, by decide⟩ [.inl ((σ 5 8) - (σ 5 12)), .inl 0] [.inr (.inr 5)] rfl rfl (Nat.le_of_ble_eq_true rfl) 21 rfl (sp_max σ ((σ 5 8) - (σ 5 12)) 0 (by omega) (by decide)) (fun r11 σ12 hq13 => ?_)
    obtain ⟨rfl, rfl⟩ := hq13
    refine sw_blk k_X6_slowDown 13 61 [(0, .inr (.inr 5))] [.inl ((σ 5 7) + (max ((σ 5 8) - (σ 5 12)) 0)), .inr (.inr 1)] (sw_u (sw_u σ 5 8 (max ((σ 5 8) - (σ 5 12)) 0)) 5 7 ((σ 5 7) + (max ((σ 5 8) - (σ 5 12)) 0))) rfl ?_
    refine sw_callV k_X6_slowDown rfl cV_X3_has ml_X6_106 ⟨by decide, by decide⟩ 1 rfl rfl [.inl ((σ 5 7) + (max ((σ 5 8) - (σ 5 12)) 0))] [] rfl rfl (Nat.le_of_ble_eq_true rfl) 64 rfl (sp_has (sw_u (sw_u σ 5 8 (max ((σ 5 8) - (σ 5 12)) 0)) 5 7 ((σ 5 7) + (max ((σ 5 8) - (σ 5 12)) 0))) ((σ 5 7) + (max ((σ 5 8) - (σ 5 12)) 0)) (by omega) (hσ 1 0)) (fun r15 σ16 hq17 => ?_)
    obtain ⟨rfl, ⟨p14, rfl⟩ | ⟨p14, rfl⟩⟩ := hq17
    · have p14 : 0 ≤ ((σ 5 7) + (max ((σ 5 8) - (σ 5 12)) 0)) ∧ ((σ 5 7) + (max ((σ 5 8) - (σ 5 12)) 0)) ≤ (σ 1 0) := p14
      refine sw_blk k_X6_slowDown 0 64 [(0, .inr (.inr 5))] [.inl 1] (sw_u (sw_u σ 5 8 (max ((σ 5 8) - (σ 5 12)) 0)) 5 7 ((σ 5 7) + (max ((σ 5 8) - (σ 5 12)) 0))) rfl ?_
      refine sw_if_ne k_X6_slowDown rfl (by decide) 94 67 (by decide) rfl (fun _ => ?_) (fun c => absurd c (by decide))
      refine sw_blk k_X6_slowDown 2 98 [(0, .inr (.inr 5))] [.inl (max ((σ 5 8) - (σ 5 12)) 0)] (sw_u (sw_u σ 5 8 (max ((σ 5 8) - (σ 5 12)) 0)) 5 7 ((σ 5 7) + (max ((σ 5 8) - (σ 5 12)) 0))) rfl ?_
      refine sw_if_ne k_X6_slowDown rfl (by omega) 106 101 (by decide) rfl (fun c18 => ?_) (fun c18 => ?_)
      · refine sw_vreturn k_X6_slowDown rfl rfl ?_
        exact ⟨rfl, (fun i j h => by unfold sw_u; (repeat rw [if_neg (by omega)])), (show (((σ 5 7) + (max ((σ 5 8) - (σ 5 12)) 0)) : Int) = sw_sp (σ 1 0) (σ 5 12) (σ 5 7) (σ 5 8) from by unfold sw_sp sw_s1; omega), (show ((max ((σ 5 8) - (σ 5 12)) 0) : Int) = sw_sv (σ 1 0) (σ 5 12) (σ 5 7) (σ 5 8) from by unfold sw_sv sw_s1; omega), (show ((σ 5 9) : Int) = (if sw_sv (σ 1 0) (σ 5 12) (σ 5 7) (σ 5 8) = 0 then 0 else σ 5 9) from by unfold sw_sv sw_s1; omega)⟩
      · refine sw_blk k_X6_slowDown 3 106 [(0, .inr (.inr 5))] [] (sw_u (sw_u (sw_u σ 5 8 (max ((σ 5 8) - (σ 5 12)) 0)) 5 7 ((σ 5 7) + (max ((σ 5 8) - (σ 5 12)) 0))) 5 9 0) rfl ?_
        refine sw_vreturn k_X6_slowDown rfl rfl ?_
        exact ⟨rfl, (fun i j h => by unfold sw_u; (repeat rw [if_neg (by omega)])), (show (((σ 5 7) + (max ((σ 5 8) - (σ 5 12)) 0)) : Int) = sw_sp (σ 1 0) (σ 5 12) (σ 5 7) (σ 5 8) from by unfold sw_sp sw_s1; omega), (show ((max ((σ 5 8) - (σ 5 12)) 0) : Int) = sw_sv (σ 1 0) (σ 5 12) (σ 5 7) (σ 5 8) from by unfold sw_sv sw_s1; omega), (show (0 : Int) = (if sw_sv (σ 1 0) (σ 5 12) (σ 5 7) (σ 5 8) = 0 then 0 else σ 5 9) from by unfold sw_sv sw_s1; omega)⟩
    · have p14 : ¬ (0 ≤ ((σ 5 7) + (max ((σ 5 8) - (σ 5 12)) 0)) ∧ ((σ 5 7) + (max ((σ 5 8) - (σ 5 12)) 0)) ≤ (σ 1 0)) := p14
      refine sw_blk k_X6_slowDown 0 64 [(0, .inr (.inr 5))] [.inl 0] (sw_u (sw_u σ 5 8 (max ((σ 5 8) - (σ 5 12)) 0)) 5 7 ((σ 5 7) + (max ((σ 5 8) - (σ 5 12)) 0))) rfl ?_
      refine sw_if_ne k_X6_slowDown rfl (by decide) 94 67 (by decide) rfl (fun c => absurd (by decide) c) (fun _ => ?_)
      refine sw_blk k_X6_slowDown 3 72 [(0, .inr (.inr 5))] [.inl ((σ 5 7) + (max ((σ 5 8) - (σ 5 12)) 0)), .inr (.inr 5)] (sw_u (sw_u σ 5 8 (max ((σ 5 8) - (σ 5 12)) 0)) 5 7 ((σ 5 7) + (max ((σ 5 8) - (σ 5 12)) 0))) rfl ?_
      refine sw_if_ge k_X6_slowDown rfl (by omega) 79 75 (by decide) rfl (fun c19 => ?_) (fun c19 => ?_)
      · refine sw_blk k_X6_slowDown 9 98 [(0, .inr (.inr 5))] [.inl 0] (sw_u (sw_u (sw_u (sw_u σ 5 8 (max ((σ 5 8) - (σ 5 12)) 0)) 5 7 ((σ 5 7) + (max ((σ 5 8) - (σ 5 12)) 0))) 5 7 (σ 1 0)) 5 8 0) rfl ?_
        refine sw_if_ne k_X6_slowDown rfl (by decide) 106 101 (by decide) rfl (fun c => absurd (by decide) c) (fun _ => ?_)
        refine sw_blk k_X6_slowDown 3 106 [(0, .inr (.inr 5))] [] (sw_u (sw_u (sw_u (sw_u (sw_u σ 5 8 (max ((σ 5 8) - (σ 5 12)) 0)) 5 7 ((σ 5 7) + (max ((σ 5 8) - (σ 5 12)) 0))) 5 7 (σ 1 0)) 5 8 0) 5 9 0) rfl ?_
        refine sw_vreturn k_X6_slowDown rfl rfl ?_
        exact ⟨rfl, (fun i j h => by unfold sw_u; (repeat rw [if_neg (by omega)])), (show ((σ 1 0) : Int) = sw_sp (σ 1 0) (σ 5 12) (σ 5 7) (σ 5 8) from by unfold sw_sp sw_s1; omega), (show (0 : Int) = sw_sv (σ 1 0) (σ 5 12) (σ 5 7) (σ 5 8) from by unfold sw_sv sw_s1; omega), (show (0 : Int) = (if sw_sv (σ 1 0) (σ 5 12) (σ 5 7) (σ 5 8) = 0 then 0 else σ 5 9) from by unfold sw_sv sw_s1; omega)⟩
      · refine sw_blk k_X6_slowDown 8 98 [(0, .inr (.inr 5))] [.inl 0] (sw_u (sw_u (sw_u (sw_u σ 5 8 (max ((σ 5 8) - (σ 5 12)) 0)) 5 7 ((σ 5 7) + (max ((σ 5 8) - (σ 5 12)) 0))) 5 7 0) 5 8 0) rfl ?_
        refine sw_if_ne k_X6_slowDown rfl (by decide) 106 101 (by decide) rfl (fun c => absurd (by decide) c) (fun _ => ?_)
        refine sw_blk k_X6_slowDown 3 106 [(0, .inr (.inr 5))] [] (sw_u (sw_u (sw_u (sw_u (sw_u σ 5 8 (max ((σ 5 8) - (σ 5 12)) 0)) 5 7 ((σ 5 7) + (max ((σ 5 8) - (σ 5 12)) 0))) 5 7 0) 5 8 0) 5 9 0) rfl ?_
        refine sw_vreturn k_X6_slowDown rfl rfl ?_
        exact ⟨rfl, (fun i j h => by unfold sw_u; (repeat rw [if_neg (by omega)])), (show (0 : Int) = sw_sp (σ 1 0) (σ 5 12) (σ 5 7) (σ 5 8) from by unfold sw_sp sw_s1; omega), (show (0 : Int) = sw_sv (σ 1 0) (σ 5 12) (σ 5 7) (σ 5 8) from by unfold sw_sv sw_s1; omega), (show (0 : Int) = (if sw_sv (σ 1 0) (σ 5 12) (σ 5 7) (σ 5 8) = 0 then 0 else σ 5 9) from by unfold sw_sv sw_s1; omega)⟩
theorem sw_cnt_le (f : Nat → Int) : ∀ n : Nat, 0 ≤ sw_cnt f n ∧ sw_cnt f n ≤ n
  | 0 => ⟨Int.le_refl 0, Int.le_refl 0⟩
  | n + 1 => by
    have := sw_cnt_le f n
    unfold sw_cnt
    split <;> omega
theorem sp_mustBrake (σ : sw_S) (hσ : sw_gs σ) (hD : 10 ≤ σ 1 0 ∧ σ 1 0 ≤ 400) (hV : 1 ≤ σ 1 1 ∧ σ 1 1 ≤ 20) (hL : ∀ x : Int, 0 ≤ x → x ≤ σ 1 0 → 1 ≤ σ 2 x.toNat ∧ σ 2 x.toNat ≤ σ 1 1) (hpl : 0 ≤ σ 5 7 ∧ σ 5 7 ≤ σ 1 0) (her : ∀ j, j < 3 → -1000 ≤ σ 9 j ∧ σ 9 j ≤ 1000) (hmg : 0 ≤ σ 5 11 ∧ σ 5 11 ≤ 20) (hrd : 0 ≤ σ 5 6 ∧ σ 5 6 < 400) (hv : -20 ≤ σ 10 (σ 5 6).toNat ∧ σ 10 (σ 5 6).toNat ≤ 20) : sw_Con sw_ly sw_rho M_X6_mustBrake [.inr (.inr 5)] σ (fun r σ' => σ = σ' ∧ ((0 < sw_cnt (σ 8) 8 ∨ sw_la (σ 2) (σ 1 0) (σ 1 1) (sw_told (σ 5 7) (σ 9 0) (σ 9 1) (σ 9 2)) + σ 5 11 < sw_abs (σ 10 (σ 5 6).toNat)) ∧ r = some (.inl 1) ∨ ¬ (0 < sw_cnt (σ 8) 8 ∨ sw_la (σ 2) (σ 1 0) (σ 1 1) (sw_told (σ 5 7) (σ 9 0) (σ 9 1) (σ 9 2)) + σ 5 11 < sw_abs (σ 10 (σ 5 6).toNat)) ∧ r = some (.inl 0))) := by
  refine sw_con (by decide) (Nat.le_of_ble_eq_true rfl) ?_
  have hla : 1 ≤ sw_la (σ 2) (σ 1 0) (σ 1 1) (sw_told (σ 5 7) (σ 9 0) (σ 9 1) (σ 9 2)) ∧ sw_la (σ 2) (σ 1 0) (σ 1 1) (sw_told (σ 5 7) (σ 9 0) (σ 9 1) (σ 9 2)) ≤ 20 := by
    unfold sw_la
    split
    · next zz => have := hL _ zz.1 zz.2; omega
    · exact hV
  refine sw_blk k_X6_mustBrake 1 1 [(0, .inr (.inr 5))] [.inr (.inr 5)] σ rfl ?_
  refine sw_callV k_X6_mustBrake rfl cV_X6_openLinks ml_X6_84 ⟨by decide, by decide⟩ 5 rfl rfl [] [] rfl rfl (Nat.le_of_ble_eq_true rfl) 4 rfl (sp_openLinks σ (fun j => hσ 8 j)) (fun r1 σ2 hq3 => ?_)
  obtain ⟨rfl, rfl⟩ := hq3
  refine sw_blk k_X6_mustBrake 0 4 [(0, .inr (.inr 5))] [.inl (sw_cnt (σ 8) 8)] σ rfl ?_
  refine sw_if_gt k_X6_mustBrake rfl (by have := sw_cnt_le (σ 8) 8; omega) 33 7 (by decide) rfl (fun c4 => ?_) (fun c4 => ?_)
  · refine sw_blk k_X6_mustBrake 2 38 [(0, .inr (.inr 5))] [.inl 1] σ rfl ?_
    refine sw_zreturn k_X6_mustBrake rfl rfl (by decide) ?_
    exact ⟨rfl, Or.inl ⟨by omega, rfl⟩⟩
  · refine sw_blk k_X6_mustBrake 1 8 [(0, .inr (.inr 5))] [.inr (.inr 5)] σ rfl ?_
    refine sw_callV k_X6_mustBrake rfl cV_X6_nextSpeed ml_X6_88 ⟨by decide, by decide⟩ 5 rfl rfl [] [] rfl rfl (Nat.le_of_ble_eq_true rfl) 11 rfl (sp_nextSpeed σ (by omega) (by omega)) (fun r5 σ6 hq7 => ?_)
    obtain ⟨rfl, rfl⟩ := hq7
    refine sw_blk k_X6_mustBrake 0 11 [(0, .inr (.inr 5))] [.inl (σ 10 (σ 5 6).toNat)] σ rfl ?_
    refine sw_callS k_X6_mustBrake rfl cS_J9_abs_0f7a4 ml_X6_91 ⟨by decide, by decide⟩ [.inl (σ 10 (σ 5 6).toNat)] [] rfl rfl (Nat.le_of_ble_eq_true rfl) 14 rfl (sp_abs σ (σ 10 (σ 5 6).toNat) (hσ 10 _)) (fun r8 σ9 hq10 => ?_)
    obtain ⟨rfl, rfl⟩ := hq10
    refine sw_blk k_X6_mustBrake 3 19 [(0, .inr (.inr 5))] [.inr (.inr 5), .inr (.inr 1), .inl (sw_abs (σ 10 (σ 5 6).toNat))] σ rfl ?_
    refine sw_callV k_X6_mustBrake rfl cV_X6_told ml_X6_95 ⟨by decide, by decide⟩ 5 rfl rfl [] [.inr (.inr 1), .inl (sw_abs (σ 10 (σ 5 6).toNat))] rfl rfl (Nat.le_of_ble_eq_true rfl) 22 rfl (sp_told σ (hσ 9 0) (hσ 9 1) (hσ 9 2)) (fun r11 σ12 hq13 => ?_)
    obtain ⟨rfl, rfl⟩ := hq13
    refine sw_blk k_X6_mustBrake 0 22 [(0, .inr (.inr 5))] [.inl (sw_told (σ 5 7) (σ 9 0) (σ 9 1) (σ 9 2)), .inr (.inr 1), .inl (sw_abs (σ 10 (σ 5 6).toNat))] σ rfl ?_
    refine sw_callV k_X6_mustBrake rfl cV_X3_limitAt ml_X6_98 ⟨by decide, by decide⟩ 1 rfl rfl [.inl (sw_told (σ 5 7) (σ 9 0) (σ 9 1) (σ 9 2))] [.inl (sw_abs (σ 10 (σ 5 6).toNat))] rfl rfl (Nat.le_of_ble_eq_true rfl) 25 rfl (sp_limitAt σ (sw_told (σ 5 7) (σ 9 0) (σ 9 1) (σ 9 2)) (by unfold sw_told; have h0 := her 0 (by decide); have h1 := her 1 (by decide); have h2 := her 2 (by decide); omega) (by omega)) (fun r14 σ15 hq16 => ?_)
    obtain ⟨rfl, rfl⟩ := hq16
    refine sw_blk k_X6_mustBrake 3 30 [(0, .inr (.inr 5))] [.inl ((sw_la (σ 2) (σ 1 0) (σ 1 1) (sw_told (σ 5 7) (σ 9 0) (σ 9 1) (σ 9 2))) + (σ 5 11)), .inl (sw_abs (σ 10 (σ 5 6).toNat))] σ rfl ?_
    refine sw_icmp_le k_X6_mustBrake rfl (by unfold sw_abs; omega) (by have := hla; omega) 37 33 (by decide) rfl (fun c17 => ?_) (fun c17 => ?_)
    · refine sw_blk k_X6_mustBrake 1 38 [(0, .inr (.inr 5))] [.inl 0] σ rfl ?_
      refine sw_zreturn k_X6_mustBrake rfl rfl (by decide) ?_
      exact ⟨rfl, Or.inr ⟨by omega, rfl⟩⟩
    · refine sw_blk k_X6_mustBrake 2 38 [(0, .inr (.inr 5))] [.inl 1] σ rfl ?_
      refine sw_zreturn k_X6_mustBrake rfl rfl (by decide) ?_
      exact ⟨rfl, Or.inl ⟨by omega, rfl⟩⟩
theorem sp_rideOn (σ : sw_S) (hσ : sw_gs σ) (hrd : 0 ≤ σ 5 6 ∧ σ 5 6 < 400) : sw_Con sw_ly sw_rho M_X6_rideOn [.inr (.inr 5)] σ (fun r σ' => (σ 5 5 ≤ σ 5 6 + 1 ∧ (sw_u (sw_u (sw_u (sw_u (sw_u (sw_u σ 5 8 (σ 10 (σ 5 6).toNat)) 5 7 (σ 5 7 + (σ 10 (σ 5 6).toNat))) 5 6 (σ 5 6 + 1)) 5 8 0) 5 9 0) 5 13 (σ 5 13 + 1)) = σ' ∨ σ 5 6 + 1 < σ 5 5 ∧ (sw_u (sw_u (sw_u σ 5 8 (σ 10 (σ 5 6).toNat)) 5 7 (σ 5 7 + (σ 10 (σ 5 6).toNat))) 5 6 (σ 5 6 + 1)) = σ') ∧ r = none) := by
  refine sw_con (by decide) (Nat.le_of_ble_eq_true rfl) ?_
  refine sw_blk k_X6_rideOn 2 2 [(0, .inr (.inr 5))] [.inr (.inr 5), .inr (.inr 5)] σ rfl ?_
  refine sw_callV k_X6_rideOn rfl cV_X6_nextSpeed ml_X6_88 ⟨by decide, by decide⟩ 5 rfl rfl [] [.inr (.inr 5)] rfl rfl (Nat.le_of_ble_eq_true rfl) 5 rfl (sp_nextSpeed σ (by omega) (by omega)) (fun r1 σ2 hq3 => ?_)
  obtain ⟨rfl, rfl⟩ := hq3
  refine sw_blk k_X6_rideOn 18 39 [(0, .inr (.inr 5))] [.inl (σ 5 5), .inl ((σ 5 6) + 1)] (sw_u (sw_u (sw_u σ 5 8 (σ 10 (σ 5 6).toNat)) 5 7 ((σ 5 7) + (σ 10 (σ 5 6).toNat))) 5 6 ((σ 5 6) + 1)) rfl ?_
  refine sw_icmp_lt k_X6_rideOn rfl (by omega) (hσ 5 _) 62 42 (by decide) rfl (fun c4 => ?_) (fun c4 => ?_)
  · refine sw_vreturn k_X6_rideOn rfl rfl ?_
    exact ⟨Or.inr ⟨by omega, rfl⟩, rfl⟩
  · refine sw_blk k_X6_rideOn 12 62 [(0, .inr (.inr 5))] [] (sw_u (sw_u (sw_u (sw_u (sw_u (sw_u σ 5 8 (σ 10 (σ 5 6).toNat)) 5 7 ((σ 5 7) + (σ 10 (σ 5 6).toNat))) 5 6 ((σ 5 6) + 1)) 5 8 0) 5 9 0) 5 13 ((σ 5 13) + 1)) rfl ?_
    refine sw_vreturn k_X6_rideOn rfl rfl ?_
    exact ⟨Or.inl ⟨by omega, rfl⟩, rfl⟩
def sw_cNP (σ : sw_S) : Int := (if σ 5 9 = 1 then (if (0 < sw_cnt (σ 8) 8 ∨ sw_la (σ 2) (σ 1 0) (σ 1 1) (sw_told (σ 5 7) (σ 9 0) (σ 9 1) (σ 9 2)) + σ 5 11 < sw_abs (σ 10 (σ 5 6).toNat)) then sw_sp (σ 1 0) (σ 5 12) (σ 5 7) (σ 5 8) else σ 5 7 + (σ 10 (σ 5 6).toNat)) else if σ 5 9 = 2 then sw_sp (σ 1 0) (σ 5 12) (σ 5 7) (σ 5 8) else σ 5 7)
def sw_cNV (σ : sw_S) : Int := (if σ 5 9 = 1 then (if (0 < sw_cnt (σ 8) 8 ∨ sw_la (σ 2) (σ 1 0) (σ 1 1) (sw_told (σ 5 7) (σ 9 0) (σ 9 1) (σ 9 2)) + σ 5 11 < sw_abs (σ 10 (σ 5 6).toNat)) then sw_sv (σ 1 0) (σ 5 12) (σ 5 7) (σ 5 8) else if σ 5 5 ≤ σ 5 6 + 1 then 0 else (σ 10 (σ 5 6).toNat)) else if σ 5 9 = 2 then sw_sv (σ 1 0) (σ 5 12) (σ 5 7) (σ 5 8) else σ 5 8)
def sw_cNH (σ : sw_S) : Int := (if σ 5 9 = 1 then (if (0 < sw_cnt (σ 8) 8 ∨ sw_la (σ 2) (σ 1 0) (σ 1 1) (sw_told (σ 5 7) (σ 9 0) (σ 9 1) (σ 9 2)) + σ 5 11 < sw_abs (σ 10 (σ 5 6).toNat)) then (if sw_sv (σ 1 0) (σ 5 12) (σ 5 7) (σ 5 8) = 0 then 0 else 2) else if σ 5 5 ≤ σ 5 6 + 1 then 0 else 1) else if σ 5 9 = 2 then (if sw_sv (σ 1 0) (σ 5 12) (σ 5 7) (σ 5 8) = 0 then 0 else 2) else σ 5 9)
def sw_cNE (σ : sw_S) : Int := (if σ 5 9 = 1 then (if (0 < sw_cnt (σ 8) 8 ∨ sw_la (σ 2) (σ 1 0) (σ 1 1) (sw_told (σ 5 7) (σ 9 0) (σ 9 1) (σ 9 2)) + σ 5 11 < sw_abs (σ 10 (σ 5 6).toNat)) then σ 5 13 else if σ 5 5 ≤ σ 5 6 + 1 then σ 5 13 + 1 else σ 5 13) else σ 5 13)
def sw_cNB (σ : sw_S) : Int := (if σ 5 9 = 1 then (if (0 < sw_cnt (σ 8) 8 ∨ sw_la (σ 2) (σ 1 0) (σ 1 1) (sw_told (σ 5 7) (σ 9 0) (σ 9 1) (σ 9 2)) + σ 5 11 < sw_abs (σ 10 (σ 5 6).toNat)) then σ 5 14 + 1 else σ 5 14) else σ 5 14)
def sw_cNR (σ : sw_S) : Int := (if σ 5 9 = 1 then (if (0 < sw_cnt (σ 8) 8 ∨ sw_la (σ 2) (σ 1 0) (σ 1 1) (sw_told (σ 5 7) (σ 9 0) (σ 9 1) (σ 9 2)) + σ 5 11 < sw_abs (σ 10 (σ 5 6).toNat)) then σ 5 6 else σ 5 6 + 1) else σ 5 6)
theorem sp_passTick (σ : sw_S) (hσ : sw_gs σ) (hD : 10 ≤ σ 1 0 ∧ σ 1 0 ≤ 400) (hV : 1 ≤ σ 1 1 ∧ σ 1 1 ≤ 20) (hL : ∀ x : Int, 0 ≤ x → x ≤ σ 1 0 → 1 ≤ σ 2 x.toNat ∧ σ 2 x.toNat ≤ σ 1 1) (hpl : 0 ≤ σ 5 7 ∧ σ 5 7 ≤ σ 1 0) (hspd : -20 ≤ σ 5 8 ∧ σ 5 8 ≤ 20) (hbr : 1 ≤ σ 5 12 ∧ σ 5 12 ≤ 10) (her : ∀ j, j < 3 → -1000 ≤ σ 9 j ∧ σ 9 j ≤ 1000) (hmg : 0 ≤ σ 5 11 ∧ σ 5 11 ≤ 20) (hrd : σ 5 9 = 1 → 0 ≤ σ 5 6 ∧ σ 5 6 < 400) (hv : σ 5 9 = 1 → -20 ≤ σ 10 (σ 5 6).toNat ∧ σ 10 (σ 5 6).toNat ≤ 20) (h61 : 0 ≤ σ 6 1 ∧ σ 6 1 < 1000000) (h514 : 0 ≤ σ 5 14 ∧ σ 5 14 < 1000000) : sw_Con sw_ly sw_rho M_X6_passTick [.inr (.inr 5)] σ (fun r σ' => r = none ∧ (∀ i j, i ≠ 7 → ¬ (i = 6 ∧ j = 1) → ¬ (i = 5 ∧ (j = 6 ∨ j = 7 ∨ j = 8 ∨ j = 9 ∨ j = 13 ∨ j = 14)) → σ' i j = σ i j) ∧ σ' 5 7 = sw_cNP σ ∧ σ' 5 8 = sw_cNV σ ∧ σ' 5 9 = sw_cNH σ ∧ σ' 5 13 = sw_cNE σ ∧ σ' 5 14 = sw_cNB σ ∧ σ' 5 6 = sw_cNR σ ∧ σ' 6 1 = σ 6 1 + 1 ∧ ∀ j : Nat, σ' 7 j = (if (j : Int) = (σ 6 1 % 40 * 3) then sw_cNP σ else if (j : Int) = (σ 6 1 % 40 * 3) + 1 then sw_cNV σ else if (j : Int) = (σ 6 1 % 40 * 3) + 2 then sw_cNH σ else σ 7 j)) := by
  refine sw_con (by decide) (Nat.le_of_ble_eq_true rfl) ?_
  refine sw_blk k_X6_passTick 3 5 [(0, .inr (.inr 5))] [.inl 1, .inl (σ 5 9)] σ rfl ?_
  refine sw_icmp_ne k_X6_passTick rfl (hσ 5 _) (by decide) 30 8 (by decide) rfl (fun c1 => ?_) (fun c1 => ?_)
  · refine sw_blk k_X6_passTick 3 35 [(0, .inr (.inr 5))] [.inl 1, .inl (σ 5 9)] σ rfl ?_
    refine sw_icmp_ne k_X6_passTick rfl (hσ 5 _) (by decide) 45 38 (by decide) rfl (fun c2 => ?_) (fun c2 => ?_)
    · refine sw_blk k_X6_passTick 3 50 [(0, .inr (.inr 5))] [.inl 2, .inl (σ 5 9)] σ rfl ?_
      refine sw_icmp_ne k_X6_passTick rfl (hσ 5 _) (by decide) 57 53 (by decide) rfl (fun c3 => ?_) (fun c3 => ?_)
      · refine sw_blk k_X6_passTick 8 73 [(0, .inr (.inr 5))] [.inl (σ 5 9), .inl (σ 5 8), .inl (σ 5 7), .inr (.inr 6)] σ rfl ?_
        refine sw_callV k_X6_passTick rfl cV_X5_note ml_X6_80 ⟨by decide, by decide⟩ 6 rfl rfl [.inl (σ 5 7), .inl (σ 5 8), .inl (σ 5 9)] [] rfl rfl (Nat.le_of_ble_eq_true rfl) 76 rfl (sp_note σ (σ 5 7) (σ 5 8) (σ 5 9) (by have e : (σ 6 1) = σ 6 1 := rfl; show 0 ≤ (σ 6 1); omega) (by have e : (σ 6 1) = σ 6 1 := rfl; show (σ 6 1) < 1000000; omega)) (fun r4 σ5 hq6 => ?_)
        obtain ⟨rfl, rfl⟩ := hq6
        refine sw_blk k_X6_passTick 0 76 [(0, .inr (.inr 5))] [] (sw_u (sw_u (sw_u (sw_u σ 7 (((σ 6 1) % 40 * 3).toNat) (σ 5 7)) 7 (((σ 6 1) % 40 * 3 + 1).toNat) (σ 5 8)) 7 (((σ 6 1) % 40 * 3 + 2).toNat) (σ 5 9)) 6 1 ((σ 6 1) + 1)) rfl ?_
        refine sw_vreturn k_X6_passTick rfl rfl ?_
        have v7 : ((σ 5 7) : Int) = sw_cNP σ := by unfold sw_cNP; omega
        have v8 : ((σ 5 8) : Int) = sw_cNV σ := by unfold sw_cNV; omega
        have v9 : ((σ 5 9) : Int) = sw_cNH σ := by unfold sw_cNH; omega
        refine ⟨rfl, (fun i j h6 h h5 => by unfold sw_u; (repeat rw [if_neg (by omega)])), v7, v8, v9, (show ((σ 5 13) : Int) = sw_cNE σ from by unfold sw_cNE; first | omega | (rw [e14]; unfold sw_u; simp; omega) | (rw [e14]; omega)), (show ((σ 5 14) : Int) = sw_cNB σ from by unfold sw_cNB; first | omega | (rw [e14]; unfold sw_u; simp; omega) | (rw [e14]; omega)), (show ((σ 5 6) : Int) = sw_cNR σ from by unfold sw_cNR; first | omega | (rw [e14]; unfold sw_u; simp; omega) | (rw [e14]; omega)), (show (((σ 6 1) + 1) : Int) = σ 6 1 + 1 from by omega), fun j => ?_⟩
        rw [← v7, ← v8, ← v9]
        unfold sw_u
        simp only [show ¬ ((7 : Nat) = 6) by decide, show ¬ ((7 : Nat) = 5) by decide, false_and, if_false, true_and]
        skip
        split <;> (try split) <;> (try split) <;> first | rfl | (rw [if_pos (by omega)]) | (rw [if_neg (by omega), if_pos (by omega)]) | (rw [if_neg (by omega), if_neg (by omega), if_pos (by omega)]) | (rw [if_neg (by omega), if_neg (by omega), if_neg (by omega)]) | omega
      · refine sw_blk k_X6_passTick 1 54 [(0, .inr (.inr 5))] [.inr (.inr 5)] σ rfl ?_
        refine sw_callV k_X6_passTick rfl cV_X6_slowDown ml_X6_74 ⟨by decide, by decide⟩ 5 rfl rfl [] [] rfl rfl (Nat.le_of_ble_eq_true rfl) 57 rfl (sp_slow σ hσ hD hpl hspd hbr) (fun r7 σ8 hq9 => ?_)
        obtain ⟨rfl, sf, s7, s8, s9⟩ := hq9
        have s7 : _ = sw_sp (σ 1 0) (σ 5 12) (σ 5 7) (σ 5 8) := s7
        have s8 : _ = sw_sv (σ 1 0) (σ 5 12) (σ 5 7) (σ 5 8) := s8
        refine sw_blk k_X6_passTick 8 73 [(0, .inr (.inr 5))] [.inl (σ8 5 9), .inl (σ8 5 8), .inl (σ8 5 7), .inr (.inr 6)] σ8 rfl ?_
        refine sw_callV k_X6_passTick rfl cV_X5_note ml_X6_80 ⟨by decide, by decide⟩ 6 rfl rfl [.inl (σ8 5 7), .inl (σ8 5 8), .inl (σ8 5 9)] [] rfl rfl (Nat.le_of_ble_eq_true rfl) 76 rfl (sp_note σ8 (σ8 5 7) (σ8 5 8) (σ8 5 9) (by have e : (σ8 6 1) = σ 6 1 := sf 6 1 (by omega); show 0 ≤ (σ8 6 1); omega) (by have e : (σ8 6 1) = σ 6 1 := sf 6 1 (by omega); show (σ8 6 1) < 1000000; omega)) (fun r10 σ11 hq12 => ?_)
        obtain ⟨rfl, rfl⟩ := hq12
        refine sw_blk k_X6_passTick 0 76 [(0, .inr (.inr 5))] [] (sw_u (sw_u (sw_u (sw_u σ8 7 (((σ8 6 1) % 40 * 3).toNat) (σ8 5 7)) 7 (((σ8 6 1) % 40 * 3 + 1).toNat) (σ8 5 8)) 7 (((σ8 6 1) % 40 * 3 + 2).toNat) (σ8 5 9)) 6 1 ((σ8 6 1) + 1)) rfl ?_
        refine sw_vreturn k_X6_passTick rfl rfl ?_
        have e61 : σ8 6 1 = σ 6 1 := sf 6 1 (by omega)
        have e7 : ∀ j, σ8 7 j = σ 7 j := fun j => sf 7 j (by omega)
        have e13 : σ8 5 13 = σ 5 13 := sf 5 13 (by omega)
        have e6 : σ8 5 6 = σ 5 6 := sf 5 6 (by omega)
        have e14 := sf 5 14 (by omega)
        have s9 : σ8 5 9 = (if sw_sv (σ 1 0) (σ 5 12) (σ 5 7) (σ 5 8) = 0 then 0 else 2) := s9.trans (by show (if _ = (0 : Int) then (0 : Int) else _) = _; first | rfl | (rw [c2]; done) | (rw [c3]; done) | (rw [c4]; done) | omega)
        have v7 : ((σ8 5 7) : Int) = sw_cNP σ := by unfold sw_cNP; omega
        have v8 : ((σ8 5 8) : Int) = sw_cNV σ := by unfold sw_cNV; omega
        have v9 : ((σ8 5 9) : Int) = sw_cNH σ := by unfold sw_cNH; omega
        refine ⟨rfl, (fun i j h6 h h5 => by unfold sw_u; (repeat rw [if_neg (by omega)]); rw [sf i j (by omega)]; (try (unfold sw_u; (repeat rw [if_neg (by omega)])))), v7, v8, v9, (show ((σ8 5 13) : Int) = sw_cNE σ from by unfold sw_cNE; first | omega | (rw [e14]; unfold sw_u; simp; omega) | (rw [e14]; omega)), (show ((σ8 5 14) : Int) = sw_cNB σ from by unfold sw_cNB; first | omega | (rw [e14]; unfold sw_u; simp; omega) | (rw [e14]; omega)), (show ((σ8 5 6) : Int) = sw_cNR σ from by unfold sw_cNR; first | omega | (rw [e14]; unfold sw_u; simp; omega) | (rw [e14]; omega)), (show (((σ8 6 1) + 1) : Int) = σ 6 1 + 1 from by omega), fun j => ?_⟩
        rw [← v7, ← v8, ← v9]
        unfold sw_u
        simp only [show ¬ ((7 : Nat) = 6) by decide, show ¬ ((7 : Nat) = 5) by decide, false_and, if_false, true_and]
        rw [e7]
        split <;> (try split) <;> (try split) <;> first | rfl | (rw [if_pos (by omega)]) | (rw [if_neg (by omega), if_pos (by omega)]) | (rw [if_neg (by omega), if_neg (by omega), if_pos (by omega)]) | (rw [if_neg (by omega), if_neg (by omega), if_neg (by omega)]) | omega
    · omega
  · refine sw_blk k_X6_passTick 1 9 [(0, .inr (.inr 5))] [.inr (.inr 5)] σ rfl ?_
    refine sw_callV k_X6_passTick rfl cV_X6_mustBrake ml_X6_64 ⟨by decide, by decide⟩ 5 rfl rfl [] [] rfl rfl (Nat.le_of_ble_eq_true rfl) 12 rfl (sp_mustBrake σ hσ hD hV hL hpl her hmg (hrd c1) (hv c1)) (fun r14 σ15 hq16 => ?_)
    obtain ⟨rfl, ⟨p13, rfl⟩ | ⟨p13, rfl⟩⟩ := hq16
    · refine sw_blk k_X6_passTick 0 12 [(0, .inr (.inr 5))] [.inl 1] σ rfl ?_
      refine sw_if_eq k_X6_passTick rfl (by decide) 30 15 (by decide) rfl (fun c => absurd c (by decide)) (fun _ => ?_)
      refine sw_blk k_X6_passTick 12 35 [(0, .inr (.inr 5))] [.inl 1, .inl 2] (sw_u (sw_u σ 5 9 2) 5 14 ((σ 5 14) + 1)) rfl ?_
      refine sw_icmp_ne k_X6_passTick rfl (by decide) (by decide) 45 38 (by decide) rfl (fun _ => ?_) (fun c => absurd c (by decide))
      refine sw_blk k_X6_passTick 3 50 [(0, .inr (.inr 5))] [.inl 2, .inl 2] (sw_u (sw_u σ 5 9 2) 5 14 ((σ 5 14) + 1)) rfl ?_
      refine sw_icmp_ne k_X6_passTick rfl (by decide) (by decide) 57 53 (by decide) rfl (fun c => absurd (by decide) c) (fun _ => ?_)
      refine sw_blk k_X6_passTick 1 54 [(0, .inr (.inr 5))] [.inr (.inr 5)] (sw_u (sw_u σ 5 9 2) 5 14 ((σ 5 14) + 1)) rfl ?_
      refine sw_callV k_X6_passTick rfl cV_X6_slowDown ml_X6_74 ⟨by decide, by decide⟩ 5 rfl rfl [] [] rfl rfl (Nat.le_of_ble_eq_true rfl) 57 rfl (sp_slow (sw_u (sw_u σ 5 9 2) 5 14 ((σ 5 14) + 1)) (sw_gs_u (sw_gs_u hσ 5 9 (by decide)) 5 14 (by omega)) hD hpl hspd hbr) (fun r17 σ18 hq19 => ?_)
      obtain ⟨rfl, sf, s7, s8, s9⟩ := hq19
      have s7 : _ = sw_sp (σ 1 0) (σ 5 12) (σ 5 7) (σ 5 8) := s7
      have s8 : _ = sw_sv (σ 1 0) (σ 5 12) (σ 5 7) (σ 5 8) := s8
      refine sw_blk k_X6_passTick 8 73 [(0, .inr (.inr 5))] [.inl (σ18 5 9), .inl (σ18 5 8), .inl (σ18 5 7), .inr (.inr 6)] σ18 rfl ?_
      refine sw_callV k_X6_passTick rfl cV_X5_note ml_X6_80 ⟨by decide, by decide⟩ 6 rfl rfl [.inl (σ18 5 7), .inl (σ18 5 8), .inl (σ18 5 9)] [] rfl rfl (Nat.le_of_ble_eq_true rfl) 76 rfl (sp_note σ18 (σ18 5 7) (σ18 5 8) (σ18 5 9) (by have e : (σ18 6 1) = σ 6 1 := sf 6 1 (by omega); show 0 ≤ (σ18 6 1); omega) (by have e : (σ18 6 1) = σ 6 1 := sf 6 1 (by omega); show (σ18 6 1) < 1000000; omega)) (fun r20 σ21 hq22 => ?_)
      obtain ⟨rfl, rfl⟩ := hq22
      refine sw_blk k_X6_passTick 0 76 [(0, .inr (.inr 5))] [] (sw_u (sw_u (sw_u (sw_u σ18 7 (((σ18 6 1) % 40 * 3).toNat) (σ18 5 7)) 7 (((σ18 6 1) % 40 * 3 + 1).toNat) (σ18 5 8)) 7 (((σ18 6 1) % 40 * 3 + 2).toNat) (σ18 5 9)) 6 1 ((σ18 6 1) + 1)) rfl ?_
      refine sw_vreturn k_X6_passTick rfl rfl ?_
      have e61 : σ18 6 1 = σ 6 1 := sf 6 1 (by omega)
      have e7 : ∀ j, σ18 7 j = σ 7 j := fun j => sf 7 j (by omega)
      have e13 : σ18 5 13 = σ 5 13 := sf 5 13 (by omega)
      have e6 : σ18 5 6 = σ 5 6 := sf 5 6 (by omega)
      have e14 := sf 5 14 (by omega)
      have s9 : σ18 5 9 = (if sw_sv (σ 1 0) (σ 5 12) (σ 5 7) (σ 5 8) = 0 then 0 else 2) := s9.trans (by show (if _ = (0 : Int) then (0 : Int) else _) = _; first | rfl | (rw [c2]; done) | (rw [c3]; done) | (rw [c4]; done) | omega)
      have v7 : ((σ18 5 7) : Int) = sw_cNP σ := by unfold sw_cNP; omega
      have v8 : ((σ18 5 8) : Int) = sw_cNV σ := by unfold sw_cNV; omega
      have v9 : ((σ18 5 9) : Int) = sw_cNH σ := by unfold sw_cNH; omega
      refine ⟨rfl, (fun i j h6 h h5 => by unfold sw_u; (repeat rw [if_neg (by omega)]); rw [sf i j (by omega)]; (try (unfold sw_u; (repeat rw [if_neg (by omega)])))), v7, v8, v9, (show ((σ18 5 13) : Int) = sw_cNE σ from by unfold sw_cNE; first | omega | (rw [e14]; unfold sw_u; simp; omega) | (rw [e14]; omega)), (show ((σ18 5 14) : Int) = sw_cNB σ from by unfold sw_cNB; first | omega | (rw [e14]; unfold sw_u; simp; omega) | (rw [e14]; omega)), (show ((σ18 5 6) : Int) = sw_cNR σ from by unfold sw_cNR; first | omega | (rw [e14]; unfold sw_u; simp; omega) | (rw [e14]; omega)), (show (((σ18 6 1) + 1) : Int) = σ 6 1 + 1 from by omega), fun j => ?_⟩
      rw [← v7, ← v8, ← v9]
      unfold sw_u
      simp only [show ¬ ((7 : Nat) = 6) by decide, show ¬ ((7 : Nat) = 5) by decide, false_and, if_false, true_and]
      rw [e7]
      split <;> (try split) <;> (try split) <;> first | rfl | (rw [if_pos (by omega)]) | (rw [if_neg (by omega), if_pos (by omega)]) | (rw [if_neg (by omega), if_neg (by omega), if_pos (by omega)]) | (rw [if_neg (by omega), if_neg (by omega), if_neg (by omega)]) | omega
    · refine sw_blk k_X6_passTick 0 12 [(0, .inr (.inr 5))] [.inl 0] σ rfl ?_
      refine sw_if_eq k_X6_passTick rfl (by decide) 30 15 (by decide) rfl (fun _ => ?_) (fun c => absurd (by decide) c)
      refine sw_blk k_X6_passTick 3 35 [(0, .inr (.inr 5))] [.inl 1, .inl (σ 5 9)] σ rfl ?_
      refine sw_icmp_ne k_X6_passTick rfl (hσ 5 _) (by decide) 45 38 (by decide) rfl (fun c23 => ?_) (fun c23 => ?_)
      · omega
      · refine sw_blk k_X6_passTick 1 39 [(0, .inr (.inr 5))] [.inr (.inr 5)] σ rfl ?_
        refine sw_callV k_X6_passTick rfl cV_X6_rideOn ml_X6_71 ⟨by decide, by decide⟩ 5 rfl rfl [] [] rfl rfl (Nat.le_of_ble_eq_true rfl) 42 rfl (sp_rideOn σ hσ (hrd c1)) (fun r25 σ26 hq27 => ?_)
        obtain ⟨⟨q24, rfl⟩ | ⟨q24, rfl⟩, rfl⟩ := hq27
        · refine sw_blk k_X6_passTick 9 73 [(0, .inr (.inr 5))] [.inl 0, .inl 0, .inl (σ 5 7 + (σ 10 (σ 5 6).toNat)), .inr (.inr 6)] (sw_u (sw_u (sw_u (sw_u (sw_u (sw_u σ 5 8 (σ 10 (σ 5 6).toNat)) 5 7 (σ 5 7 + (σ 10 (σ 5 6).toNat))) 5 6 (σ 5 6 + 1)) 5 8 0) 5 9 0) 5 13 (σ 5 13 + 1)) rfl ?_
          refine sw_callV k_X6_passTick rfl cV_X5_note ml_X6_80 ⟨by decide, by decide⟩ 6 rfl rfl [.inl (σ 5 7 + (σ 10 (σ 5 6).toNat)), .inl 0, .inl 0] [] rfl rfl (Nat.le_of_ble_eq_true rfl) 76 rfl (sp_note (sw_u (sw_u (sw_u (sw_u (sw_u (sw_u σ 5 8 (σ 10 (σ 5 6).toNat)) 5 7 (σ 5 7 + (σ 10 (σ 5 6).toNat))) 5 6 (σ 5 6 + 1)) 5 8 0) 5 9 0) 5 13 (σ 5 13 + 1)) (σ 5 7 + (σ 10 (σ 5 6).toNat)) 0 0 (by have e : (σ 6 1) = σ 6 1 := rfl; show 0 ≤ (σ 6 1); omega) (by have e : (σ 6 1) = σ 6 1 := rfl; show (σ 6 1) < 1000000; omega)) (fun r28 σ29 hq30 => ?_)
          obtain ⟨rfl, rfl⟩ := hq30
          refine sw_blk k_X6_passTick 0 76 [(0, .inr (.inr 5))] [] (sw_u (sw_u (sw_u (sw_u (sw_u (sw_u (sw_u (sw_u (sw_u (sw_u σ 5 8 (σ 10 (σ 5 6).toNat)) 5 7 (σ 5 7 + (σ 10 (σ 5 6).toNat))) 5 6 (σ 5 6 + 1)) 5 8 0) 5 9 0) 5 13 (σ 5 13 + 1)) 7 (((σ 6 1) % 40 * 3).toNat) (σ 5 7 + (σ 10 (σ 5 6).toNat))) 7 (((σ 6 1) % 40 * 3 + 1).toNat) 0) 7 (((σ 6 1) % 40 * 3 + 2).toNat) 0) 6 1 ((σ 6 1) + 1)) rfl ?_
          refine sw_vreturn k_X6_passTick rfl rfl ?_
          have v7 : ((σ 5 7 + (σ 10 (σ 5 6).toNat)) : Int) = sw_cNP σ := by unfold sw_cNP; omega
          have v8 : (0 : Int) = sw_cNV σ := by unfold sw_cNV; omega
          have v9 : (0 : Int) = sw_cNH σ := by unfold sw_cNH; omega
          refine ⟨rfl, (fun i j h6 h h5 => by unfold sw_u; (repeat rw [if_neg (by omega)])), v7, v8, v9, (show ((σ 5 13 + 1) : Int) = sw_cNE σ from by unfold sw_cNE; first | omega | (rw [e14]; unfold sw_u; simp; omega) | (rw [e14]; omega)), (show ((σ 5 14) : Int) = sw_cNB σ from by unfold sw_cNB; first | omega | (rw [e14]; unfold sw_u; simp; omega) | (rw [e14]; omega)), (show ((σ 5 6 + 1) : Int) = sw_cNR σ from by unfold sw_cNR; first | omega | (rw [e14]; unfold sw_u; simp; omega) | (rw [e14]; omega)), (show (((σ 6 1) + 1) : Int) = σ 6 1 + 1 from by omega), fun j => ?_⟩
          rw [← v7, ← v8, ← v9]
          unfold sw_u
          simp only [show ¬ ((7 : Nat) = 6) by decide, show ¬ ((7 : Nat) = 5) by decide, false_and, if_false, true_and]
          skip
          split <;> (try split) <;> (try split) <;> first | rfl | (rw [if_pos (by omega)]) | (rw [if_neg (by omega), if_pos (by omega)]) | (rw [if_neg (by omega), if_neg (by omega), if_pos (by omega)]) | (rw [if_neg (by omega), if_neg (by omega), if_neg (by omega)]) | omega
        · refine sw_blk k_X6_passTick 9 73 [(0, .inr (.inr 5))] [.inl (σ 5 9), .inl (σ 10 (σ 5 6).toNat), .inl (σ 5 7 + (σ 10 (σ 5 6).toNat)), .inr (.inr 6)] (sw_u (sw_u (sw_u σ 5 8 (σ 10 (σ 5 6).toNat)) 5 7 (σ 5 7 + (σ 10 (σ 5 6).toNat))) 5 6 (σ 5 6 + 1)) rfl ?_
          refine sw_callV k_X6_passTick rfl cV_X5_note ml_X6_80 ⟨by decide, by decide⟩ 6 rfl rfl [.inl (σ 5 7 + (σ 10 (σ 5 6).toNat)), .inl (σ 10 (σ 5 6).toNat), .inl (σ 5 9)] [] rfl rfl (Nat.le_of_ble_eq_true rfl) 76 rfl (sp_note (sw_u (sw_u (sw_u σ 5 8 (σ 10 (σ 5 6).toNat)) 5 7 (σ 5 7 + (σ 10 (σ 5 6).toNat))) 5 6 (σ 5 6 + 1)) (σ 5 7 + (σ 10 (σ 5 6).toNat)) (σ 10 (σ 5 6).toNat) (σ 5 9) (by have e : (σ 6 1) = σ 6 1 := rfl; show 0 ≤ (σ 6 1); omega) (by have e : (σ 6 1) = σ 6 1 := rfl; show (σ 6 1) < 1000000; omega)) (fun r31 σ32 hq33 => ?_)
          obtain ⟨rfl, rfl⟩ := hq33
          refine sw_blk k_X6_passTick 0 76 [(0, .inr (.inr 5))] [] (sw_u (sw_u (sw_u (sw_u (sw_u (sw_u (sw_u σ 5 8 (σ 10 (σ 5 6).toNat)) 5 7 (σ 5 7 + (σ 10 (σ 5 6).toNat))) 5 6 (σ 5 6 + 1)) 7 (((σ 6 1) % 40 * 3).toNat) (σ 5 7 + (σ 10 (σ 5 6).toNat))) 7 (((σ 6 1) % 40 * 3 + 1).toNat) (σ 10 (σ 5 6).toNat)) 7 (((σ 6 1) % 40 * 3 + 2).toNat) (σ 5 9)) 6 1 ((σ 6 1) + 1)) rfl ?_
          refine sw_vreturn k_X6_passTick rfl rfl ?_
          have v7 : ((σ 5 7 + (σ 10 (σ 5 6).toNat)) : Int) = sw_cNP σ := by unfold sw_cNP; omega
          have v8 : ((σ 10 (σ 5 6).toNat) : Int) = sw_cNV σ := by unfold sw_cNV; omega
          have v9 : ((σ 5 9) : Int) = sw_cNH σ := by unfold sw_cNH; omega
          refine ⟨rfl, (fun i j h6 h h5 => by unfold sw_u; (repeat rw [if_neg (by omega)])), v7, v8, v9, (show ((σ 5 13) : Int) = sw_cNE σ from by unfold sw_cNE; first | omega | (rw [e14]; unfold sw_u; simp; omega) | (rw [e14]; omega)), (show ((σ 5 14) : Int) = sw_cNB σ from by unfold sw_cNB; first | omega | (rw [e14]; unfold sw_u; simp; omega) | (rw [e14]; omega)), (show ((σ 5 6 + 1) : Int) = sw_cNR σ from by unfold sw_cNR; first | omega | (rw [e14]; unfold sw_u; simp; omega) | (rw [e14]; omega)), (show (((σ 6 1) + 1) : Int) = σ 6 1 + 1 from by omega), fun j => ?_⟩
          rw [← v7, ← v8, ← v9]
          unfold sw_u
          simp only [show ¬ ((7 : Nat) = 6) by decide, show ¬ ((7 : Nat) = 5) by decide, false_and, if_false, true_and]
          skip
          split <;> (try split) <;> (try split) <;> first | rfl | (rw [if_pos (by omega)]) | (rw [if_neg (by omega), if_pos (by omega)]) | (rw [if_neg (by omega), if_neg (by omega), if_pos (by omega)]) | (rw [if_neg (by omega), if_neg (by omega), if_neg (by omega)]) | omega
