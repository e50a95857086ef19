theorem sw_acL : Cond.methodLink RX7 255 arraycopyName ∈ sw_tb := sw_in 581 (by decide +kernel) rfl
theorem sw_acN : Cond.native arraycopyName ∈ sw_tb := sw_in 583 (by decide +kernel) rfl
theorem sw_acS : Cond.static arraycopyName ∈ sw_tb := sw_in 582 (by decide +kernel) rfl
theorem sw_acI : Cond.initialized "java/lang/System" ∈ sw_tb := sw_in 12 (by decide +kernel) rfl
/-- a row with a stretch of another copied into it -/
def sw_cp (σ : sw_S) (a : Nat) (i : Int) (b : Nat) (j k : Int) : sw_S := fun x y => if x = b ∧ (j.toNat ≤ y ∧ y < j.toNat + k.toNat) then σ a (i.toNat + (y - j.toNat)) else σ x y
theorem sw_acopy {ly : sw_Ly} {ρ : sw_Rf} {I : List (Option sw_I)} {pc : Nat} {L : sw_L} {σ : sw_S} {Q : Option sw_Vl → sw_S → Prop} (hI : sw_Ok M_X7_copy I) {a b : Nat} {z : Int} (h : I[pc]? = some (some (.invokestatic 255, a, b, z))) {c1 c2 n1 n2 : Nat} (k1 : ly[c1]? = some (100, n1)) (k2 : ly[c2]? = some (100, n2)) {i j k : Int} (gi : sw_g i) (gj : sw_g j) (gk : sw_g k) (hi : 0 ≤ i) (hj : 0 ≤ j) (hk : 0 ≤ k) (h1 : i + k ≤ n1) (h2 : j + k ≤ n2) (nx : Nat) (hn : pc + 3 = nx) (kk : sw_E ly ρ M_X7_copy nx L [] (sw_cp σ c1 i c2 j k) Q) : sw_E ly ρ M_X7_copy pc L [.inl k, .inl j, .inr (.inr c2), .inl i, .inr (.inr c1)] σ Q := by
  subst hn
  intro l D c3 ad p e s m args below meth c H locs ls C hP hS hl
  have C0 := C
  obtain ⟨hx, hb, hr, hml, hown, hts, hlk, hK, hjj⟩ := C
  have nn : ∀ t : Int, sw_g t → 0 ≤ t → ¬ Int32.ofInt t < 0 ∧ (Int32.ofInt t).toNatClampNeg = t.toNat := by
    intro t gt ht
    refine ⟨fun q => ?_, ?_⟩
    · have := (sw_lt gt sw_g0).mp q
      omega
    · show (Int32.ofInt t).toInt.toNat = _
      rw [sw_ti gt]
  obtain ⟨a1, e1⟩ := nn i gi hi
  obtain ⟨a2, e2⟩ := nn j gj hj
  obtain ⟨a3, e3⟩ := nn k gk hk
  refine va_copyi (rest := []) hx hb (hml.trans hl.1.symm) hown (hts _ sw_acL) (hts _ sw_acN) (hts _ sw_acS) (hts _ sw_acI) hK hP (sw_D hjj) hS c1 c2 0 0 (sw_wl_at k1) (sw_wl_at k2) rfl rfl rfl a1 a2 a3 (by rw [e1, e3]; omega) (by rw [e2, e3]; omega) (fun _ _ => rfl) (by decide) (by decide +kernel) (sw_dec hI h).1 (fun H1 locs1 hP1 hD1 hS1 => ?_)
  have ef : va_cpy (fun t => Int32.ofInt (σ c1 t)) (fun t => Int32.ofInt (σ c2 t)) i.toNat j.toNat k.toNat = fun t => Int32.ofInt (sw_cp σ c1 i c2 j k c2 t) := by
    funext t
    unfold va_cpy sw_cp
    by_cases hz : j.toNat ≤ t ∧ t < j.toNat + k.toNat
    · rw [if_pos hz, if_pos ⟨rfl, hz⟩]
    · rw [if_neg hz, if_neg (fun y => hz y.2)]
  rw [e1, e2, e3, ef] at hP1
  have e4 : (ad c2, (Sum.inl (c3.1, n2, Sum.inl fun t => Int32.ofInt (sw_cp σ c1 i c2 j k c2 t)) : va_E)) = (ad c2, sw_ce c3 ad ρ (sw_cp σ c1 i c2 j k) c2 (100, n2)) := rfl
  rw [e4, sw_wl_set k2 (fun a' b' h' => by unfold sw_cp; rw [if_neg (fun y => h' y.1)])] at hP1
  exact kk l D c3 ad p e s m args below meth c H1 locs1 ls C0 hP1 hS1 hl
theorem cc_copy00 (σ : sw_S) (hσ : sw_gs σ) (hs0 : 0 ≤ σ 15 3) (hs1 : σ 15 3 ≤ 60) (ht0 : 0 ≤ σ 15 3) (ht1 : σ 15 3 ≤ 60) (i j n : Int) (gi : sw_g i) (gj : sw_g j) (gn : sw_g n) : sw_Con sw_ly sw_rho M_X7_copy [.inr (.inr 0), .inl 0, .inl i, .inl 0, .inl j, .inl n] σ (fun r σ' => ((¬ σ 15 1 = 0 ∨ ¬ σ 15 1 = 0) ∧ r = some (.inl (-10 - 1)) ∧ sw_u σ 0 9 1 = σ') ∨ ((¬ (¬ σ 15 1 = 0 ∨ ¬ σ 15 1 = 0) ∧ ¬ σ 15 2 = σ 15 2) ∧ r = some (.inl (-10 - 4)) ∧ sw_u σ 0 9 4 = σ') ∨ ((¬ (¬ σ 15 1 = 0 ∨ ¬ σ 15 1 = 0) ∧ σ 15 2 = σ 15 2 ∧ ¬ ((0 ≤ i ∧ 0 ≤ n ∧ i ≤ σ 15 3 - n) ∧ (0 ≤ j ∧ 0 ≤ n ∧ j ≤ σ 15 3 - n))) ∧ r = some (.inl (-10 - 2)) ∧ sw_u σ 0 9 2 = σ') ∨ ((¬ (¬ σ 15 1 = 0 ∨ ¬ σ 15 1 = 0) ∧ σ 15 2 = σ 15 2 ∧ ((0 ≤ i ∧ 0 ≤ n ∧ i ≤ σ 15 3 - n) ∧ (0 ≤ j ∧ 0 ≤ n ∧ j ≤ σ 15 3 - n))) ∧ r = some (.inl 1) ∧ sw_cp σ 16 i 16 j n = σ')) := by
  refine sw_con (by decide) (Nat.le_of_ble_eq_true rfl) ?_
  refine sw_blk k_X7_copy 1 1 [(0, .inr (.inr 0)), (1, .inl 0), (2, .inl i), (3, .inl 0), (4, .inl j), (5, .inl n)] [.inl 0] σ rfl ?_
  refine sw_callS k_X7_copy rfl cS_X7_isSheet ml_X7_219 ⟨by decide, by decide⟩ [.inl 0] [] rfl rfl (Nat.le_of_ble_eq_true rfl) 4 rfl (sp_isSheet σ 0 (by decide)) (fun r2 σ3 hq4 => ?_)
  obtain ⟨rfl, ⟨p1, rfl⟩ | ⟨p1, rfl⟩⟩ := hq4
  · refine sw_blk k_X7_copy 0 4 [(0, .inr (.inr 0)), (1, .inl 0), (2, .inl i), (3, .inl 0), (4, .inl j), (5, .inl n)] [.inl 1] σ rfl ?_
    refine sw_if_eq k_X7_copy rfl (by decide) 14 7 (by decide) rfl (fun c => absurd c (by decide)) (fun _ => ?_)
    refine sw_blk k_X7_copy 1 8 [(0, .inr (.inr 0)), (1, .inl 0), (2, .inl i), (3, .inl 0), (4, .inl j), (5, .inl n)] [.inl 0] σ rfl ?_
    refine sw_callS k_X7_copy rfl cS_X7_isSheet ml_X7_219 ⟨by decide, by decide⟩ [.inl 0] [] rfl rfl (Nat.le_of_ble_eq_true rfl) 11 rfl (sp_isSheet σ 0 (by decide)) (fun r6 σ7 hq8 => ?_)
    obtain ⟨rfl, ⟨p5, rfl⟩ | ⟨p5, rfl⟩⟩ := hq8
    · refine sw_blk k_X7_copy 0 11 [(0, .inr (.inr 0)), (1, .inl 0), (2, .inl i), (3, .inl 0), (4, .inl j), (5, .inl n)] [.inl 1] σ rfl ?_
      refine sw_if_ne k_X7_copy rfl (by decide) 17 14 (by decide) rfl (fun _ => ?_) (fun c => absurd c (by decide))
      refine sw_blk k_X7_copy 3 22 [(0, .inr (.inr 0)), (1, .inl 0), (2, .inl i), (3, .inl 0), (4, .inl j), (5, .inl n)] [.inl 0, .inr (.inr 14)] σ rfl ?_
      refine sw_aald k_X7_copy rfl (i := 14) (n := 4) (r := 15) rfl (by decide) (by decide) (by decide) rfl 23 rfl ?_
      refine sw_blk k_X7_copy 4 30 [(6, .inr (.inr 15)), (0, .inr (.inr 0)), (1, .inl 0), (2, .inl i), (3, .inl 0), (4, .inl j), (5, .inl n)] [.inl 0, .inr (.inr 14)] σ rfl ?_
      refine sw_aald k_X7_copy rfl (i := 14) (n := 4) (r := 15) rfl (by decide) (by decide) (by decide) rfl 31 rfl ?_
      refine sw_blk k_X7_copy 3 38 [(7, .inr (.inr 15)), (6, .inr (.inr 15)), (0, .inr (.inr 0)), (1, .inl 0), (2, .inl i), (3, .inl 0), (4, .inl j), (5, .inl n)] [.inl (σ 15 1)] σ rfl ?_
      refine sw_if_ne k_X7_copy rfl (hσ 15 _) 49 41 (by decide) rfl (fun c9 => ?_) (fun c9 => ?_)
      · refine sw_blk k_X7_copy 2 51 [(7, .inr (.inr 15)), (6, .inr (.inr 15)), (0, .inr (.inr 0)), (1, .inl 0), (2, .inl i), (3, .inl 0), (4, .inl j), (5, .inl n)] [.inl 1, .inr (.inr 0)] σ rfl ?_
        refine sw_callV k_X7_copy rfl cV_X7_finding ml_X7_225 ⟨by decide, by decide⟩ 0 rfl rfl [.inl 1] [] rfl rfl (Nat.le_of_ble_eq_true rfl) 54 rfl (sp_finding σ 1) (fun r10 σ11 hq12 => ?_)
        obtain ⟨rfl, rfl⟩ := hq12
        refine sw_blk k_X7_copy 0 54 [(7, .inr (.inr 15)), (6, .inr (.inr 15)), (0, .inr (.inr 0)), (1, .inl 0), (2, .inl i), (3, .inl 0), (4, .inl j), (5, .inl n)] [.inl (-10 - 1)] (sw_u σ 0 9 1) rfl ?_
        refine sw_ireturn k_X7_copy rfl rfl ?_
        exact Or.inl ⟨by omega, rfl, rfl⟩
      · refine sw_blk k_X7_copy 2 46 [(7, .inr (.inr 15)), (6, .inr (.inr 15)), (0, .inr (.inr 0)), (1, .inl 0), (2, .inl i), (3, .inl 0), (4, .inl j), (5, .inl n)] [.inl (σ 15 1)] σ rfl ?_
        refine sw_if_eq k_X7_copy rfl (hσ 15 _) 55 49 (by decide) rfl (fun c13 => ?_) (fun c13 => ?_)
        · refine sw_blk k_X7_copy 4 65 [(7, .inr (.inr 15)), (6, .inr (.inr 15)), (0, .inr (.inr 0)), (1, .inl 0), (2, .inl i), (3, .inl 0), (4, .inl j), (5, .inl n)] [.inl (σ 15 2), .inl (σ 15 2)] σ rfl ?_
          refine sw_icmp_eq k_X7_copy rfl (hσ 15 _) (hσ 15 _) 74 68 (by decide) rfl (fun c14 => ?_) (fun c14 => ?_)
          · refine sw_blk k_X7_copy 3 79 [(7, .inr (.inr 15)), (6, .inr (.inr 15)), (0, .inr (.inr 0)), (1, .inl 0), (2, .inl i), (3, .inl 0), (4, .inl j), (5, .inl n)] [.inl n, .inl i, .inr (.inr 15)] σ rfl ?_
            refine sw_callV k_X7_copy rfl cV_X4_hasItems ml_X7_251 ⟨by decide, by decide⟩ 15 rfl rfl [.inl i, .inl n] [] rfl rfl (Nat.le_of_ble_eq_true rfl) 82 rfl (sp_hasItems0 σ i n (by omega) (by omega) hs0 hs1) (fun r16 σ17 hq18 => ?_)
            obtain ⟨rfl, ⟨p15, rfl⟩ | ⟨p15, rfl⟩⟩ := hq18
            · refine sw_blk k_X7_copy 0 82 [(7, .inr (.inr 15)), (6, .inr (.inr 15)), (0, .inr (.inr 0)), (1, .inl 0), (2, .inl i), (3, .inl 0), (4, .inl j), (5, .inl n)] [.inl 1] σ rfl ?_
              refine sw_if_eq k_X7_copy rfl (by decide) 97 85 (by decide) rfl (fun c => absurd c (by decide)) (fun _ => ?_)
              refine sw_blk k_X7_copy 3 91 [(7, .inr (.inr 15)), (6, .inr (.inr 15)), (0, .inr (.inr 0)), (1, .inl 0), (2, .inl i), (3, .inl 0), (4, .inl j), (5, .inl n)] [.inl n, .inl j, .inr (.inr 15)] σ rfl ?_
              refine sw_callV k_X7_copy rfl cV_X4_hasItems ml_X7_251 ⟨by decide, by decide⟩ 15 rfl rfl [.inl j, .inl n] [] rfl rfl (Nat.le_of_ble_eq_true rfl) 94 rfl (sp_hasItems0 σ j n (by omega) (by omega) hs0 hs1) (fun r20 σ21 hq22 => ?_)
              obtain ⟨rfl, ⟨p19, rfl⟩ | ⟨p19, rfl⟩⟩ := hq22
              · refine sw_blk k_X7_copy 0 94 [(7, .inr (.inr 15)), (6, .inr (.inr 15)), (0, .inr (.inr 0)), (1, .inl 0), (2, .inl i), (3, .inl 0), (4, .inl j), (5, .inl n)] [.inl 1] σ rfl ?_
                refine sw_if_ne k_X7_copy rfl (by decide) 103 97 (by decide) rfl (fun _ => ?_) (fun c => absurd c (by decide))
                refine sw_blk k_X7_copy 7 118 [(7, .inr (.inr 15)), (6, .inr (.inr 15)), (0, .inr (.inr 0)), (1, .inl 0), (2, .inl i), (3, .inl 0), (4, .inl j), (5, .inl n)] [.inl n, .inl j, .inr (.inr 16), .inl i, .inr (.inr 16)] σ rfl ?_
                refine sw_acopy k_X7_copy rfl (c1 := 16) (c2 := 16) (n1 := 60) (n2 := 60) rfl rfl (by omega) (by omega) (by omega) (by omega) (by omega) (by omega) (by omega) (by omega) 121 rfl ?_
                refine sw_blk k_X7_copy 1 122 [(7, .inr (.inr 15)), (6, .inr (.inr 15)), (0, .inr (.inr 0)), (1, .inl 0), (2, .inl i), (3, .inl 0), (4, .inl j), (5, .inl n)] [.inl 1] (sw_cp σ 16 i 16 j n) rfl ?_
                refine sw_ireturn k_X7_copy rfl rfl ?_
                exact Or.inr (Or.inr (Or.inr ⟨by omega, rfl, rfl⟩))
              · refine sw_blk k_X7_copy 0 94 [(7, .inr (.inr 15)), (6, .inr (.inr 15)), (0, .inr (.inr 0)), (1, .inl 0), (2, .inl i), (3, .inl 0), (4, .inl j), (5, .inl n)] [.inl 0] σ rfl ?_
                refine sw_if_ne k_X7_copy rfl (by decide) 103 97 (by decide) rfl (fun c => absurd (by decide) c) (fun _ => ?_)
                refine sw_blk k_X7_copy 2 99 [(7, .inr (.inr 15)), (6, .inr (.inr 15)), (0, .inr (.inr 0)), (1, .inl 0), (2, .inl i), (3, .inl 0), (4, .inl j), (5, .inl n)] [.inl 2, .inr (.inr 0)] σ rfl ?_
                refine sw_callV k_X7_copy rfl cV_X7_finding ml_X7_225 ⟨by decide, by decide⟩ 0 rfl rfl [.inl 2] [] rfl rfl (Nat.le_of_ble_eq_true rfl) 102 rfl (sp_finding σ 2) (fun r23 σ24 hq25 => ?_)
                obtain ⟨rfl, rfl⟩ := hq25
                refine sw_blk k_X7_copy 0 102 [(7, .inr (.inr 15)), (6, .inr (.inr 15)), (0, .inr (.inr 0)), (1, .inl 0), (2, .inl i), (3, .inl 0), (4, .inl j), (5, .inl n)] [.inl (-10 - 2)] (sw_u σ 0 9 2) rfl ?_
                refine sw_ireturn k_X7_copy rfl rfl ?_
                exact Or.inr (Or.inr (Or.inl ⟨by omega, rfl, rfl⟩))
            · refine sw_blk k_X7_copy 0 82 [(7, .inr (.inr 15)), (6, .inr (.inr 15)), (0, .inr (.inr 0)), (1, .inl 0), (2, .inl i), (3, .inl 0), (4, .inl j), (5, .inl n)] [.inl 0] σ rfl ?_
              refine sw_if_eq k_X7_copy rfl (by decide) 97 85 (by decide) rfl (fun _ => ?_) (fun c => absurd (by decide) c)
              refine sw_blk k_X7_copy 2 99 [(7, .inr (.inr 15)), (6, .inr (.inr 15)), (0, .inr (.inr 0)), (1, .inl 0), (2, .inl i), (3, .inl 0), (4, .inl j), (5, .inl n)] [.inl 2, .inr (.inr 0)] σ rfl ?_
              refine sw_callV k_X7_copy rfl cV_X7_finding ml_X7_225 ⟨by decide, by decide⟩ 0 rfl rfl [.inl 2] [] rfl rfl (Nat.le_of_ble_eq_true rfl) 102 rfl (sp_finding σ 2) (fun r26 σ27 hq28 => ?_)
              obtain ⟨rfl, rfl⟩ := hq28
              refine sw_blk k_X7_copy 0 102 [(7, .inr (.inr 15)), (6, .inr (.inr 15)), (0, .inr (.inr 0)), (1, .inl 0), (2, .inl i), (3, .inl 0), (4, .inl j), (5, .inl n)] [.inl (-10 - 2)] (sw_u σ 0 9 2) rfl ?_
              refine sw_ireturn k_X7_copy rfl rfl ?_
              exact Or.inr (Or.inr (Or.inl ⟨by omega, rfl, rfl⟩))
          · refine sw_blk k_X7_copy 2 70 [(7, .inr (.inr 15)), (6, .inr (.inr 15)), (0, .inr (.inr 0)), (1, .inl 0), (2, .inl i), (3, .inl 0), (4, .inl j), (5, .inl n)] [.inl 4, .inr (.inr 0)] σ rfl ?_
            refine sw_callV k_X7_copy rfl cV_X7_finding ml_X7_225 ⟨by decide, by decide⟩ 0 rfl rfl [.inl 4] [] rfl rfl (Nat.le_of_ble_eq_true rfl) 73 rfl (sp_finding σ 4) (fun r29 σ30 hq31 => ?_)
            obtain ⟨rfl, rfl⟩ := hq31
            refine sw_blk k_X7_copy 0 73 [(7, .inr (.inr 15)), (6, .inr (.inr 15)), (0, .inr (.inr 0)), (1, .inl 0), (2, .inl i), (3, .inl 0), (4, .inl j), (5, .inl n)] [.inl (-10 - 4)] (sw_u σ 0 9 4) rfl ?_
            refine sw_ireturn k_X7_copy rfl rfl ?_
            exact Or.inr (Or.inl ⟨by omega, rfl, rfl⟩)
        · refine sw_blk k_X7_copy 2 51 [(7, .inr (.inr 15)), (6, .inr (.inr 15)), (0, .inr (.inr 0)), (1, .inl 0), (2, .inl i), (3, .inl 0), (4, .inl j), (5, .inl n)] [.inl 1, .inr (.inr 0)] σ rfl ?_
          refine sw_callV k_X7_copy rfl cV_X7_finding ml_X7_225 ⟨by decide, by decide⟩ 0 rfl rfl [.inl 1] [] rfl rfl (Nat.le_of_ble_eq_true rfl) 54 rfl (sp_finding σ 1) (fun r32 σ33 hq34 => ?_)
          obtain ⟨rfl, rfl⟩ := hq34
          refine sw_blk k_X7_copy 0 54 [(7, .inr (.inr 15)), (6, .inr (.inr 15)), (0, .inr (.inr 0)), (1, .inl 0), (2, .inl i), (3, .inl 0), (4, .inl j), (5, .inl n)] [.inl (-10 - 1)] (sw_u σ 0 9 1) rfl ?_
          refine sw_ireturn k_X7_copy rfl rfl ?_
          exact Or.inl ⟨by omega, rfl, rfl⟩
    · exact absurd (by decide) p5
  · exact absurd (by decide) p1
theorem cc_copy01 (σ : sw_S) (hσ : sw_gs σ) (hs0 : 0 ≤ σ 15 3) (hs1 : σ 15 3 ≤ 60) (ht0 : 0 ≤ σ 17 3) (ht1 : σ 17 3 ≤ 60) (i j n : Int) (gi : sw_g i) (gj : sw_g j) (gn : sw_g n) : sw_Con sw_ly sw_rho M_X7_copy [.inr (.inr 0), .inl 0, .inl i, .inl 1, .inl j, .inl n] σ (fun r σ' => ((¬ σ 15 1 = 0 ∨ ¬ σ 17 1 = 0) ∧ r = some (.inl (-10 - 1)) ∧ sw_u σ 0 9 1 = σ') ∨ ((¬ (¬ σ 15 1 = 0 ∨ ¬ σ 17 1 = 0) ∧ ¬ σ 15 2 = σ 17 2) ∧ r = some (.inl (-10 - 4)) ∧ sw_u σ 0 9 4 = σ') ∨ ((¬ (¬ σ 15 1 = 0 ∨ ¬ σ 17 1 = 0) ∧ σ 15 2 = σ 17 2 ∧ ¬ ((0 ≤ i ∧ 0 ≤ n ∧ i ≤ σ 15 3 - n) ∧ (0 ≤ j ∧ 0 ≤ n ∧ j ≤ σ 17 3 - n))) ∧ r = some (.inl (-10 - 2)) ∧ sw_u σ 0 9 2 = σ') ∨ ((¬ (¬ σ 15 1 = 0 ∨ ¬ σ 17 1 = 0) ∧ σ 15 2 = σ 17 2 ∧ ((0 ≤ i ∧ 0 ≤ n ∧ i ≤ σ 15 3 - n) ∧ (0 ≤ j ∧ 0 ≤ n ∧ j ≤ σ 17 3 - n))) ∧ r = some (.inl 1) ∧ sw_cp σ 16 i 18 j n = σ')) := by
  refine sw_con (by decide) (Nat.le_of_ble_eq_true rfl) ?_
  refine sw_blk k_X7_copy 1 1 [(0, .inr (.inr 0)), (1, .inl 0), (2, .inl i), (3, .inl 1), (4, .inl j), (5, .inl n)] [.inl 0] σ rfl ?_
  refine sw_callS k_X7_copy rfl cS_X7_isSheet ml_X7_219 ⟨by decide, by decide⟩ [.inl 0] [] rfl rfl (Nat.le_of_ble_eq_true rfl) 4 rfl (sp_isSheet σ 0 (by decide)) (fun r2 σ3 hq4 => ?_)
  obtain ⟨rfl, ⟨p1, rfl⟩ | ⟨p1, rfl⟩⟩ := hq4
  · refine sw_blk k_X7_copy 0 4 [(0, .inr (.inr 0)), (1, .inl 0), (2, .inl i), (3, .inl 1), (4, .inl j), (5, .inl n)] [.inl 1] σ rfl ?_
    refine sw_if_eq k_X7_copy rfl (by decide) 14 7 (by decide) rfl (fun c => absurd c (by decide)) (fun _ => ?_)
    refine sw_blk k_X7_copy 1 8 [(0, .inr (.inr 0)), (1, .inl 0), (2, .inl i), (3, .inl 1), (4, .inl j), (5, .inl n)] [.inl 1] σ rfl ?_
    refine sw_callS k_X7_copy rfl cS_X7_isSheet ml_X7_219 ⟨by decide, by decide⟩ [.inl 1] [] rfl rfl (Nat.le_of_ble_eq_true rfl) 11 rfl (sp_isSheet σ 1 (by decide)) (fun r6 σ7 hq8 => ?_)
    obtain ⟨rfl, ⟨p5, rfl⟩ | ⟨p5, rfl⟩⟩ := hq8
    · refine sw_blk k_X7_copy 0 11 [(0, .inr (.inr 0)), (1, .inl 0), (2, .inl i), (3, .inl 1), (4, .inl j), (5, .inl n)] [.inl 1] σ rfl ?_
      refine sw_if_ne k_X7_copy rfl (by decide) 17 14 (by decide) rfl (fun _ => ?_) (fun c => absurd c (by decide))
      refine sw_blk k_X7_copy 3 22 [(0, .inr (.inr 0)), (1, .inl 0), (2, .inl i), (3, .inl 1), (4, .inl j), (5, .inl n)] [.inl 0, .inr (.inr 14)] σ rfl ?_
      refine sw_aald k_X7_copy rfl (i := 14) (n := 4) (r := 15) rfl (by decide) (by decide) (by decide) rfl 23 rfl ?_
      refine sw_blk k_X7_copy 4 30 [(6, .inr (.inr 15)), (0, .inr (.inr 0)), (1, .inl 0), (2, .inl i), (3, .inl 1), (4, .inl j), (5, .inl n)] [.inl 1, .inr (.inr 14)] σ rfl ?_
      refine sw_aald k_X7_copy rfl (i := 14) (n := 4) (r := 17) rfl (by decide) (by decide) (by decide) rfl 31 rfl ?_
      refine sw_blk k_X7_copy 3 38 [(7, .inr (.inr 17)), (6, .inr (.inr 15)), (0, .inr (.inr 0)), (1, .inl 0), (2, .inl i), (3, .inl 1), (4, .inl j), (5, .inl n)] [.inl (σ 15 1)] σ rfl ?_
      refine sw_if_ne k_X7_copy rfl (hσ 15 _) 49 41 (by decide) rfl (fun c9 => ?_) (fun c9 => ?_)
      · refine sw_blk k_X7_copy 2 51 [(7, .inr (.inr 17)), (6, .inr (.inr 15)), (0, .inr (.inr 0)), (1, .inl 0), (2, .inl i), (3, .inl 1), (4, .inl j), (5, .inl n)] [.inl 1, .inr (.inr 0)] σ rfl ?_
        refine sw_callV k_X7_copy rfl cV_X7_finding ml_X7_225 ⟨by decide, by decide⟩ 0 rfl rfl [.inl 1] [] rfl rfl (Nat.le_of_ble_eq_true rfl) 54 rfl (sp_finding σ 1) (fun r10 σ11 hq12 => ?_)
        obtain ⟨rfl, rfl⟩ := hq12
        refine sw_blk k_X7_copy 0 54 [(7, .inr (.inr 17)), (6, .inr (.inr 15)), (0, .inr (.inr 0)), (1, .inl 0), (2, .inl i), (3, .inl 1), (4, .inl j), (5, .inl n)] [.inl (-10 - 1)] (sw_u σ 0 9 1) rfl ?_
        refine sw_ireturn k_X7_copy rfl rfl ?_
        exact Or.inl ⟨by omega, rfl, rfl⟩
      · refine sw_blk k_X7_copy 2 46 [(7, .inr (.inr 17)), (6, .inr (.inr 15)), (0, .inr (.inr 0)), (1, .inl 0), (2, .inl i), (3, .inl 1), (4, .inl j), (5, .inl n)] [.inl (σ 17 1)] σ rfl ?_
        refine sw_if_eq k_X7_copy rfl (hσ 17 _) 55 49 (by decide) rfl (fun c13 => ?_) (fun c13 => ?_)
        · refine sw_blk k_X7_copy 4 65 [(7, .inr (.inr 17)), (6, .inr (.inr 15)), (0, .inr (.inr 0)), (1, .inl 0), (2, .inl i), (3, .inl 1), (4, .inl j), (5, .inl n)] [.inl (σ 17 2), .inl (σ 15 2)] σ rfl ?_
          refine sw_icmp_eq k_X7_copy rfl (hσ 15 _) (hσ 17 _) 74 68 (by decide) rfl (fun c14 => ?_) (fun c14 => ?_)
          · refine sw_blk k_X7_copy 3 79 [(7, .inr (.inr 17)), (6, .inr (.inr 15)), (0, .inr (.inr 0)), (1, .inl 0), (2, .inl i), (3, .inl 1), (4, .inl j), (5, .inl n)] [.inl n, .inl i, .inr (.inr 15)] σ rfl ?_
            refine sw_callV k_X7_copy rfl cV_X4_hasItems ml_X7_251 ⟨by decide, by decide⟩ 15 rfl rfl [.inl i, .inl n] [] rfl rfl (Nat.le_of_ble_eq_true rfl) 82 rfl (sp_hasItems0 σ i n (by omega) (by omega) hs0 hs1) (fun r16 σ17 hq18 => ?_)
            obtain ⟨rfl, ⟨p15, rfl⟩ | ⟨p15, rfl⟩⟩ := hq18
            · refine sw_blk k_X7_copy 0 82 [(7, .inr (.inr 17)), (6, .inr (.inr 15)), (0, .inr (.inr 0)), (1, .inl 0), (2, .inl i), (3, .inl 1), (4, .inl j), (5, .inl n)] [.inl 1] σ rfl ?_
              refine sw_if_eq k_X7_copy rfl (by decide) 97 85 (by decide) rfl (fun c => absurd c (by decide)) (fun _ => ?_)
              refine sw_blk k_X7_copy 3 91 [(7, .inr (.inr 17)), (6, .inr (.inr 15)), (0, .inr (.inr 0)), (1, .inl 0), (2, .inl i), (3, .inl 1), (4, .inl j), (5, .inl n)] [.inl n, .inl j, .inr (.inr 17)] σ rfl ?_
              refine sw_callV k_X7_copy rfl cV_X4_hasItems ml_X7_251 ⟨by decide, by decide⟩ 17 rfl rfl [.inl j, .inl n] [] rfl rfl (Nat.le_of_ble_eq_true rfl) 94 rfl (sp_hasItems1 σ j n (by omega) (by omega) ht0 ht1) (fun r20 σ21 hq22 => ?_)
              obtain ⟨rfl, ⟨p19, rfl⟩ | ⟨p19, rfl⟩⟩ := hq22
              · refine sw_blk k_X7_copy 0 94 [(7, .inr (.inr 17)), (6, .inr (.inr 15)), (0, .inr (.inr 0)), (1, .inl 0), (2, .inl i), (3, .inl 1), (4, .inl j), (5, .inl n)] [.inl 1] σ rfl ?_
                refine sw_if_ne k_X7_copy rfl (by decide) 103 97 (by decide) rfl (fun _ => ?_) (fun c => absurd c (by decide))
                refine sw_blk k_X7_copy 7 118 [(7, .inr (.inr 17)), (6, .inr (.inr 15)), (0, .inr (.inr 0)), (1, .inl 0), (2, .inl i), (3, .inl 1), (4, .inl j), (5, .inl n)] [.inl n, .inl j, .inr (.inr 18), .inl i, .inr (.inr 16)] σ rfl ?_
                refine sw_acopy k_X7_copy rfl (c1 := 16) (c2 := 18) (n1 := 60) (n2 := 60) rfl rfl (by omega) (by omega) (by omega) (by omega) (by omega) (by omega) (by omega) (by omega) 121 rfl ?_
                refine sw_blk k_X7_copy 1 122 [(7, .inr (.inr 17)), (6, .inr (.inr 15)), (0, .inr (.inr 0)), (1, .inl 0), (2, .inl i), (3, .inl 1), (4, .inl j), (5, .inl n)] [.inl 1] (sw_cp σ 16 i 18 j n) rfl ?_
                refine sw_ireturn k_X7_copy rfl rfl ?_
                exact Or.inr (Or.inr (Or.inr ⟨by omega, rfl, rfl⟩))
              · refine sw_blk k_X7_copy 0 94 [(7, .inr (.inr 17)), (6, .inr (.inr 15)), (0, .inr (.inr 0)), (1, .inl 0), (2, .inl i), (3, .inl 1), (4, .inl j), (5, .inl n)] [.inl 0] σ rfl ?_
                refine sw_if_ne k_X7_copy rfl (by decide) 103 97 (by decide) rfl (fun c => absurd (by decide) c) (fun _ => ?_)
                refine sw_blk k_X7_copy 2 99 [(7, .inr (.inr 17)), (6, .inr (.inr 15)), (0, .inr (.inr 0)), (1, .inl 0), (2, .inl i), (3, .inl 1), (4, .inl j), (5, .inl n)] [.inl 2, .inr (.inr 0)] σ rfl ?_
                refine sw_callV k_X7_copy rfl cV_X7_finding ml_X7_225 ⟨by decide, by decide⟩ 0 rfl rfl [.inl 2] [] rfl rfl (Nat.le_of_ble_eq_true rfl) 102 rfl (sp_finding σ 2) (fun r23 σ24 hq25 => ?_)
                obtain ⟨rfl, rfl⟩ := hq25
                refine sw_blk k_X7_copy 0 102 [(7, .inr (.inr 17)), (6, .inr (.inr 15)), (0, .inr (.inr 0)), (1, .inl 0), (2, .inl i), (3, .inl 1), (4, .inl j), (5, .inl n)] [.inl (-10 - 2)] (sw_u σ 0 9 2) rfl ?_
                refine sw_ireturn k_X7_copy rfl rfl ?_
                exact Or.inr (Or.inr (Or.inl ⟨by omega, rfl, rfl⟩))
            · refine sw_blk k_X7_copy 0 82 [(7, .inr (.inr 17)), (6, .inr (.inr 15)), (0, .inr (.inr 0)), (1, .inl 0), (2, .inl i), (3, .inl 1), (4, .inl j), (5, .inl n)] [.inl 0] σ rfl ?_
              refine sw_if_eq k_X7_copy rfl (by decide) 97 85 (by decide) rfl (fun _ => ?_) (fun c => absurd (by decide) c)
              refine sw_blk k_X7_copy 2 99 [(7, .inr (.inr 17)), (6, .inr (.inr 15)), (0, .inr (.inr 0)), (1, .inl 0), (2, .inl i), (3, .inl 1), (4, .inl j), (5, .inl n)] [.inl 2, .inr (.inr 0)] σ rfl ?_
              refine sw_callV k_X7_copy rfl cV_X7_finding ml_X7_225 ⟨by decide, by decide⟩ 0 rfl rfl [.inl 2] [] rfl rfl (Nat.le_of_ble_eq_true rfl) 102 rfl (sp_finding σ 2) (fun r26 σ27 hq28 => ?_)
              obtain ⟨rfl, rfl⟩ := hq28
              refine sw_blk k_X7_copy 0 102 [(7, .inr (.inr 17)), (6, .inr (.inr 15)), (0, .inr (.inr 0)), (1, .inl 0), (2, .inl i), (3, .inl 1), (4, .inl j), (5, .inl n)] [.inl (-10 - 2)] (sw_u σ 0 9 2) rfl ?_
              refine sw_ireturn k_X7_copy rfl rfl ?_
              exact Or.inr (Or.inr (Or.inl ⟨by omega, rfl, rfl⟩))
          · refine sw_blk k_X7_copy 2 70 [(7, .inr (.inr 17)), (6, .inr (.inr 15)), (0, .inr (.inr 0)), (1, .inl 0), (2, .inl i), (3, .inl 1), (4, .inl j), (5, .inl n)] [.inl 4, .inr (.inr 0)] σ rfl ?_
            refine sw_callV k_X7_copy rfl cV_X7_finding ml_X7_225 ⟨by decide, by decide⟩ 0 rfl rfl [.inl 4] [] rfl rfl (Nat.le_of_ble_eq_true rfl) 73 rfl (sp_finding σ 4) (fun r29 σ30 hq31 => ?_)
            obtain ⟨rfl, rfl⟩ := hq31
            refine sw_blk k_X7_copy 0 73 [(7, .inr (.inr 17)), (6, .inr (.inr 15)), (0, .inr (.inr 0)), (1, .inl 0), (2, .inl i), (3, .inl 1), (4, .inl j), (5, .inl n)] [.inl (-10 - 4)] (sw_u σ 0 9 4) rfl ?_
            refine sw_ireturn k_X7_copy rfl rfl ?_
            exact Or.inr (Or.inl ⟨by omega, rfl, rfl⟩)
        · refine sw_blk k_X7_copy 2 51 [(7, .inr (.inr 17)), (6, .inr (.inr 15)), (0, .inr (.inr 0)), (1, .inl 0), (2, .inl i), (3, .inl 1), (4, .inl j), (5, .inl n)] [.inl 1, .inr (.inr 0)] σ rfl ?_
          refine sw_callV k_X7_copy rfl cV_X7_finding ml_X7_225 ⟨by decide, by decide⟩ 0 rfl rfl [.inl 1] [] rfl rfl (Nat.le_of_ble_eq_true rfl) 54 rfl (sp_finding σ 1) (fun r32 σ33 hq34 => ?_)
          obtain ⟨rfl, rfl⟩ := hq34
          refine sw_blk k_X7_copy 0 54 [(7, .inr (.inr 17)), (6, .inr (.inr 15)), (0, .inr (.inr 0)), (1, .inl 0), (2, .inl i), (3, .inl 1), (4, .inl j), (5, .inl n)] [.inl (-10 - 1)] (sw_u σ 0 9 1) rfl ?_
          refine sw_ireturn k_X7_copy rfl rfl ?_
          exact Or.inl ⟨by omega, rfl, rfl⟩
    · exact absurd (by decide) p5
  · exact absurd (by decide) p1
theorem cc_copy02 (σ : sw_S) (hσ : sw_gs σ) (hs0 : 0 ≤ σ 15 3) (hs1 : σ 15 3 ≤ 60) (ht0 : 0 ≤ σ 19 3) (ht1 : σ 19 3 ≤ 60) (i j n : Int) (gi : sw_g i) (gj : sw_g j) (gn : sw_g n) : sw_Con sw_ly sw_rho M_X7_copy [.inr (.inr 0), .inl 0, .inl i, .inl 2, .inl j, .inl n] σ (fun r σ' => ((¬ σ 15 1 = 0 ∨ ¬ σ 19 1 = 0) ∧ r = some (.inl (-10 - 1)) ∧ sw_u σ 0 9 1 = σ') ∨ ((¬ (¬ σ 15 1 = 0 ∨ ¬ σ 19 1 = 0) ∧ ¬ σ 15 2 = σ 19 2) ∧ r = some (.inl (-10 - 4)) ∧ sw_u σ 0 9 4 = σ') ∨ ((¬ (¬ σ 15 1 = 0 ∨ ¬ σ 19 1 = 0) ∧ σ 15 2 = σ 19 2 ∧ ¬ ((0 ≤ i ∧ 0 ≤ n ∧ i ≤ σ 15 3 - n) ∧ (0 ≤ j ∧ 0 ≤ n ∧ j ≤ σ 19 3 - n))) ∧ r = some (.inl (-10 - 2)) ∧ sw_u σ 0 9 2 = σ') ∨ ((¬ (¬ σ 15 1 = 0 ∨ ¬ σ 19 1 = 0) ∧ σ 15 2 = σ 19 2 ∧ ((0 ≤ i ∧ 0 ≤ n ∧ i ≤ σ 15 3 - n) ∧ (0 ≤ j ∧ 0 ≤ n ∧ j ≤ σ 19 3 - n))) ∧ r = some (.inl 1) ∧ sw_cp σ 16 i 20 j n = σ')) := by
  refine sw_con (by decide) (Nat.le_of_ble_eq_true rfl) ?_
  refine sw_blk k_X7_copy 1 1 [(0, .inr (.inr 0)), (1, .inl 0), (2, .inl i), (3, .inl 2), (4, .inl j), (5, .inl n)] [.inl 0] σ rfl ?_
  refine sw_callS k_X7_copy rfl cS_X7_isSheet ml_X7_219 ⟨by decide, by decide⟩ [.inl 0] [] rfl rfl (Nat.le_of_ble_eq_true rfl) 4 rfl (sp_isSheet σ 0 (by decide)) (fun r2 σ3 hq4 => ?_)
  obtain ⟨rfl, ⟨p1, rfl⟩ | ⟨p1, rfl⟩⟩ := hq4
  · refine sw_blk k_X7_copy 0 4 [(0, .inr (.inr 0)), (1, .inl 0), (2, .inl i), (3, .inl 2), (4, .inl j), (5, .inl n)] [.inl 1] σ rfl ?_
    refine sw_if_eq k_X7_copy rfl (by decide) 14 7 (by decide) rfl (fun c => absurd c (by decide)) (fun _ => ?_)
    refine sw_blk k_X7_copy 1 8 [(0, .inr (.inr 0)), (1, .inl 0), (2, .inl i), (3, .inl 2), (4, .inl j), (5, .inl n)] [.inl 2] σ rfl ?_
    refine sw_callS k_X7_copy rfl cS_X7_isSheet ml_X7_219 ⟨by decide, by decide⟩ [.inl 2] [] rfl rfl (Nat.le_of_ble_eq_true rfl) 11 rfl (sp_isSheet σ 2 (by decide)) (fun r6 σ7 hq8 => ?_)
    obtain ⟨rfl, ⟨p5, rfl⟩ | ⟨p5, rfl⟩⟩ := hq8
    · refine sw_blk k_X7_copy 0 11 [(0, .inr (.inr 0)), (1, .inl 0), (2, .inl i), (3, .inl 2), (4, .inl j), (5, .inl n)] [.inl 1] σ rfl ?_
      refine sw_if_ne k_X7_copy rfl (by decide) 17 14 (by decide) rfl (fun _ => ?_) (fun c => absurd c (by decide))
      refine sw_blk k_X7_copy 3 22 [(0, .inr (.inr 0)), (1, .inl 0), (2, .inl i), (3, .inl 2), (4, .inl j), (5, .inl n)] [.inl 0, .inr (.inr 14)] σ rfl ?_
      refine sw_aald k_X7_copy rfl (i := 14) (n := 4) (r := 15) rfl (by decide) (by decide) (by decide) rfl 23 rfl ?_
      refine sw_blk k_X7_copy 4 30 [(6, .inr (.inr 15)), (0, .inr (.inr 0)), (1, .inl 0), (2, .inl i), (3, .inl 2), (4, .inl j), (5, .inl n)] [.inl 2, .inr (.inr 14)] σ rfl ?_
      refine sw_aald k_X7_copy rfl (i := 14) (n := 4) (r := 19) rfl (by decide) (by decide) (by decide) rfl 31 rfl ?_
      refine sw_blk k_X7_copy 3 38 [(7, .inr (.inr 19)), (6, .inr (.inr 15)), (0, .inr (.inr 0)), (1, .inl 0), (2, .inl i), (3, .inl 2), (4, .inl j), (5, .inl n)] [.inl (σ 15 1)] σ rfl ?_
      refine sw_if_ne k_X7_copy rfl (hσ 15 _) 49 41 (by decide) rfl (fun c9 => ?_) (fun c9 => ?_)
      · refine sw_blk k_X7_copy 2 51 [(7, .inr (.inr 19)), (6, .inr (.inr 15)), (0, .inr (.inr 0)), (1, .inl 0), (2, .inl i), (3, .inl 2), (4, .inl j), (5, .inl n)] [.inl 1, .inr (.inr 0)] σ rfl ?_
        refine sw_callV k_X7_copy rfl cV_X7_finding ml_X7_225 ⟨by decide, by decide⟩ 0 rfl rfl [.inl 1] [] rfl rfl (Nat.le_of_ble_eq_true rfl) 54 rfl (sp_finding σ 1) (fun r10 σ11 hq12 => ?_)
        obtain ⟨rfl, rfl⟩ := hq12
        refine sw_blk k_X7_copy 0 54 [(7, .inr (.inr 19)), (6, .inr (.inr 15)), (0, .inr (.inr 0)), (1, .inl 0), (2, .inl i), (3, .inl 2), (4, .inl j), (5, .inl n)] [.inl (-10 - 1)] (sw_u σ 0 9 1) rfl ?_
        refine sw_ireturn k_X7_copy rfl rfl ?_
        exact Or.inl ⟨by omega, rfl, rfl⟩
      · refine sw_blk k_X7_copy 2 46 [(7, .inr (.inr 19)), (6, .inr (.inr 15)), (0, .inr (.inr 0)), (1, .inl 0), (2, .inl i), (3, .inl 2), (4, .inl j), (5, .inl n)] [.inl (σ 19 1)] σ rfl ?_
        refine sw_if_eq k_X7_copy rfl (hσ 19 _) 55 49 (by decide) rfl (fun c13 => ?_) (fun c13 => ?_)
        · refine sw_blk k_X7_copy 4 65 [(7, .inr (.inr 19)), (6, .inr (.inr 15)), (0, .inr (.inr 0)), (1, .inl 0), (2, .inl i), (3, .inl 2), (4, .inl j), (5, .inl n)] [.inl (σ 19 2), .inl (σ 15 2)] σ rfl ?_
          refine sw_icmp_eq k_X7_copy rfl (hσ 15 _) (hσ 19 _) 74 68 (by decide) rfl (fun c14 => ?_) (fun c14 => ?_)
          · refine sw_blk k_X7_copy 3 79 [(7, .inr (.inr 19)), (6, .inr (.inr 15)), (0, .inr (.inr 0)), (1, .inl 0), (2, .inl i), (3, .inl 2), (4, .inl j), (5, .inl n)] [.inl n, .inl i, .inr (.inr 15)] σ rfl ?_
            refine sw_callV k_X7_copy rfl cV_X4_hasItems ml_X7_251 ⟨by decide, by decide⟩ 15 rfl rfl [.inl i, .inl n] [] rfl rfl (Nat.le_of_ble_eq_true rfl) 82 rfl (sp_hasItems0 σ i n (by omega) (by omega) hs0 hs1) (fun r16 σ17 hq18 => ?_)
            obtain ⟨rfl, ⟨p15, rfl⟩ | ⟨p15, rfl⟩⟩ := hq18
            · refine sw_blk k_X7_copy 0 82 [(7, .inr (.inr 19)), (6, .inr (.inr 15)), (0, .inr (.inr 0)), (1, .inl 0), (2, .inl i), (3, .inl 2), (4, .inl j), (5, .inl n)] [.inl 1] σ rfl ?_
              refine sw_if_eq k_X7_copy rfl (by decide) 97 85 (by decide) rfl (fun c => absurd c (by decide)) (fun _ => ?_)
              refine sw_blk k_X7_copy 3 91 [(7, .inr (.inr 19)), (6, .inr (.inr 15)), (0, .inr (.inr 0)), (1, .inl 0), (2, .inl i), (3, .inl 2), (4, .inl j), (5, .inl n)] [.inl n, .inl j, .inr (.inr 19)] σ rfl ?_
              refine sw_callV k_X7_copy rfl cV_X4_hasItems ml_X7_251 ⟨by decide, by decide⟩ 19 rfl rfl [.inl j, .inl n] [] rfl rfl (Nat.le_of_ble_eq_true rfl) 94 rfl (sp_hasItems2 σ j n (by omega) (by omega) ht0 ht1) (fun r20 σ21 hq22 => ?_)
              obtain ⟨rfl, ⟨p19, rfl⟩ | ⟨p19, rfl⟩⟩ := hq22
              · refine sw_blk k_X7_copy 0 94 [(7, .inr (.inr 19)), (6, .inr (.inr 15)), (0, .inr (.inr 0)), (1, .inl 0), (2, .inl i), (3, .inl 2), (4, .inl j), (5, .inl n)] [.inl 1] σ rfl ?_
                refine sw_if_ne k_X7_copy rfl (by decide) 103 97 (by decide) rfl (fun _ => ?_) (fun c => absurd c (by decide))
                refine sw_blk k_X7_copy 7 118 [(7, .inr (.inr 19)), (6, .inr (.inr 15)), (0, .inr (.inr 0)), (1, .inl 0), (2, .inl i), (3, .inl 2), (4, .inl j), (5, .inl n)] [.inl n, .inl j, .inr (.inr 20), .inl i, .inr (.inr 16)] σ rfl ?_
                refine sw_acopy k_X7_copy rfl (c1 := 16) (c2 := 20) (n1 := 60) (n2 := 60) rfl rfl (by omega) (by omega) (by omega) (by omega) (by omega) (by omega) (by omega) (by omega) 121 rfl ?_
                refine sw_blk k_X7_copy 1 122 [(7, .inr (.inr 19)), (6, .inr (.inr 15)), (0, .inr (.inr 0)), (1, .inl 0), (2, .inl i), (3, .inl 2), (4, .inl j), (5, .inl n)] [.inl 1] (sw_cp σ 16 i 20 j n) rfl ?_
                refine sw_ireturn k_X7_copy rfl rfl ?_
                exact Or.inr (Or.inr (Or.inr ⟨by omega, rfl, rfl⟩))
              · refine sw_blk k_X7_copy 0 94 [(7, .inr (.inr 19)), (6, .inr (.inr 15)), (0, .inr (.inr 0)), (1, .inl 0), (2, .inl i), (3, .inl 2), (4, .inl j), (5, .inl n)] [.inl 0] σ rfl ?_
                refine sw_if_ne k_X7_copy rfl (by decide) 103 97 (by decide) rfl (fun c => absurd (by decide) c) (fun _ => ?_)
                refine sw_blk k_X7_copy 2 99 [(7, .inr (.inr 19)), (6, .inr (.inr 15)), (0, .inr (.inr 0)), (1, .inl 0), (2, .inl i), (3, .inl 2), (4, .inl j), (5, .inl n)] [.inl 2, .inr (.inr 0)] σ rfl ?_
                refine sw_callV k_X7_copy rfl cV_X7_finding ml_X7_225 ⟨by decide, by decide⟩ 0 rfl rfl [.inl 2] [] rfl rfl (Nat.le_of_ble_eq_true rfl) 102 rfl (sp_finding σ 2) (fun r23 σ24 hq25 => ?_)
                obtain ⟨rfl, rfl⟩ := hq25
                refine sw_blk k_X7_copy 0 102 [(7, .inr (.inr 19)), (6, .inr (.inr 15)), (0, .inr (.inr 0)), (1, .inl 0), (2, .inl i), (3, .inl 2), (4, .inl j), (5, .inl n)] [.inl (-10 - 2)] (sw_u σ 0 9 2) rfl ?_
                refine sw_ireturn k_X7_copy rfl rfl ?_
                exact Or.inr (Or.inr (Or.inl ⟨by omega, rfl, rfl⟩))
            · refine sw_blk k_X7_copy 0 82 [(7, .inr (.inr 19)), (6, .inr (.inr 15)), (0, .inr (.inr 0)), (1, .inl 0), (2, .inl i), (3, .inl 2), (4, .inl j), (5, .inl n)] [.inl 0] σ rfl ?_
              refine sw_if_eq k_X7_copy rfl (by decide) 97 85 (by decide) rfl (fun _ => ?_) (fun c => absurd (by decide) c)
              refine sw_blk k_X7_copy 2 99 [(7, .inr (.inr 19)), (6, .inr (.inr 15)), (0, .inr (.inr 0)), (1, .inl 0), (2, .inl i), (3, .inl 2), (4, .inl j), (5, .inl n)] [.inl 2, .inr (.inr 0)] σ rfl ?_
              refine sw_callV k_X7_copy rfl cV_X7_finding ml_X7_225 ⟨by decide, by decide⟩ 0 rfl rfl [.inl 2] [] rfl rfl (Nat.le_of_ble_eq_true rfl) 102 rfl (sp_finding σ 2) (fun r26 σ27 hq28 => ?_)
              obtain ⟨rfl, rfl⟩ := hq28
              refine sw_blk k_X7_copy 0 102 [(7, .inr (.inr 19)), (6, .inr (.inr 15)), (0, .inr (.inr 0)), (1, .inl 0), (2, .inl i), (3, .inl 2), (4, .inl j), (5, .inl n)] [.inl (-10 - 2)] (sw_u σ 0 9 2) rfl ?_
              refine sw_ireturn k_X7_copy rfl rfl ?_
              exact Or.inr (Or.inr (Or.inl ⟨by omega, rfl, rfl⟩))
          · refine sw_blk k_X7_copy 2 70 [(7, .inr (.inr 19)), (6, .inr (.inr 15)), (0, .inr (.inr 0)), (1, .inl 0), (2, .inl i), (3, .inl 2), (4, .inl j), (5, .inl n)] [.inl 4, .inr (.inr 0)] σ rfl ?_
            refine sw_callV k_X7_copy rfl cV_X7_finding ml_X7_225 ⟨by decide, by decide⟩ 0 rfl rfl [.inl 4] [] rfl rfl (Nat.le_of_ble_eq_true rfl) 73 rfl (sp_finding σ 4) (fun r29 σ30 hq31 => ?_)
            obtain ⟨rfl, rfl⟩ := hq31
            refine sw_blk k_X7_copy 0 73 [(7, .inr (.inr 19)), (6, .inr (.inr 15)), (0, .inr (.inr 0)), (1, .inl 0), (2, .inl i), (3, .inl 2), (4, .inl j), (5, .inl n)] [.inl (-10 - 4)] (sw_u σ 0 9 4) rfl ?_
            refine sw_ireturn k_X7_copy rfl rfl ?_
            exact Or.inr (Or.inl ⟨by omega, rfl, rfl⟩)
        · refine sw_blk k_X7_copy 2 51 [(7, .inr (.inr 19)), (6, .inr (.inr 15)), (0, .inr (.inr 0)), (1, .inl 0), (2, .inl i), (3, .inl 2), (4, .inl j), (5, .inl n)] [.inl 1, .inr (.inr 0)] σ rfl ?_
          refine sw_callV k_X7_copy rfl cV_X7_finding ml_X7_225 ⟨by decide, by decide⟩ 0 rfl rfl [.inl 1] [] rfl rfl (Nat.le_of_ble_eq_true rfl) 54 rfl (sp_finding σ 1) (fun r32 σ33 hq34 => ?_)
          obtain ⟨rfl, rfl⟩ := hq34
          refine sw_blk k_X7_copy 0 54 [(7, .inr (.inr 19)), (6, .inr (.inr 15)), (0, .inr (.inr 0)), (1, .inl 0), (2, .inl i), (3, .inl 2), (4, .inl j), (5, .inl n)] [.inl (-10 - 1)] (sw_u σ 0 9 1) rfl ?_
          refine sw_ireturn k_X7_copy rfl rfl ?_
          exact Or.inl ⟨by omega, rfl, rfl⟩
    · exact absurd (by decide) p5
  · exact absurd (by decide) p1
theorem cc_copy03 (σ : sw_S) (hσ : sw_gs σ) (hs0 : 0 ≤ σ 15 3) (hs1 : σ 15 3 ≤ 60) (ht0 : 0 ≤ σ 21 3) (ht1 : σ 21 3 ≤ 60) (i j n : Int) (gi : sw_g i) (gj : sw_g j) (gn : sw_g n) : sw_Con sw_ly sw_rho M_X7_copy [.inr (.inr 0), .inl 0, .inl i, .inl 3, .inl j, .inl n] σ (fun r σ' => ((¬ σ 15 1 = 0 ∨ ¬ σ 21 1 = 0) ∧ r = some (.inl (-10 - 1)) ∧ sw_u σ 0 9 1 = σ') ∨ ((¬ (¬ σ 15 1 = 0 ∨ ¬ σ 21 1 = 0) ∧ ¬ σ 15 2 = σ 21 2) ∧ r = some (.inl (-10 - 4)) ∧ sw_u σ 0 9 4 = σ') ∨ ((¬ (¬ σ 15 1 = 0 ∨ ¬ σ 21 1 = 0) ∧ σ 15 2 = σ 21 2 ∧ ¬ ((0 ≤ i ∧ 0 ≤ n ∧ i ≤ σ 15 3 - n) ∧ (0 ≤ j ∧ 0 ≤ n ∧ j ≤ σ 21 3 - n))) ∧ r = some (.inl (-10 - 2)) ∧ sw_u σ 0 9 2 = σ') ∨ ((¬ (¬ σ 15 1 = 0 ∨ ¬ σ 21 1 = 0) ∧ σ 15 2 = σ 21 2 ∧ ((0 ≤ i ∧ 0 ≤ n ∧ i ≤ σ 15 3 - n) ∧ (0 ≤ j ∧ 0 ≤ n ∧ j ≤ σ 21 3 - n))) ∧ r = some (.inl 1) ∧ sw_cp σ 16 i 22 j n = σ')) := by
  refine sw_con (by decide) (Nat.le_of_ble_eq_true rfl) ?_
  refine sw_blk k_X7_copy 1 1 [(0, .inr (.inr 0)), (1, .inl 0), (2, .inl i), (3, .inl 3), (4, .inl j), (5, .inl n)] [.inl 0] σ rfl ?_
  refine sw_callS k_X7_copy rfl cS_X7_isSheet ml_X7_219 ⟨by decide, by decide⟩ [.inl 0] [] rfl rfl (Nat.le_of_ble_eq_true rfl) 4 rfl (sp_isSheet σ 0 (by decide)) (fun r2 σ3 hq4 => ?_)
  obtain ⟨rfl, ⟨p1, rfl⟩ | ⟨p1, rfl⟩⟩ := hq4
  · refine sw_blk k_X7_copy 0 4 [(0, .inr (.inr 0)), (1, .inl 0), (2, .inl i), (3, .inl 3), (4, .inl j), (5, .inl n)] [.inl 1] σ rfl ?_
    refine sw_if_eq k_X7_copy rfl (by decide) 14 7 (by decide) rfl (fun c => absurd c (by decide)) (fun _ => ?_)
    refine sw_blk k_X7_copy 1 8 [(0, .inr (.inr 0)), (1, .inl 0), (2, .inl i), (3, .inl 3), (4, .inl j), (5, .inl n)] [.inl 3] σ rfl ?_
    refine sw_callS k_X7_copy rfl cS_X7_isSheet ml_X7_219 ⟨by decide, by decide⟩ [.inl 3] [] rfl rfl (Nat.le_of_ble_eq_true rfl) 11 rfl (sp_isSheet σ 3 (by decide)) (fun r6 σ7 hq8 => ?_)
    obtain ⟨rfl, ⟨p5, rfl⟩ | ⟨p5, rfl⟩⟩ := hq8
    · refine sw_blk k_X7_copy 0 11 [(0, .inr (.inr 0)), (1, .inl 0), (2, .inl i), (3, .inl 3), (4, .inl j), (5, .inl n)] [.inl 1] σ rfl ?_
      refine sw_if_ne k_X7_copy rfl (by decide) 17 14 (by decide) rfl (fun _ => ?_) (fun c => absurd c (by decide))
      refine sw_blk k_X7_copy 3 22 [(0, .inr (.inr 0)), (1, .inl 0), (2, .inl i), (3, .inl 3), (4, .inl j), (5, .inl n)] [.inl 0, .inr (.inr 14)] σ rfl ?_
      refine sw_aald k_X7_copy rfl (i := 14) (n := 4) (r := 15) rfl (by decide) (by decide) (by decide) rfl 23 rfl ?_
      refine sw_blk k_X7_copy 4 30 [(6, .inr (.inr 15)), (0, .inr (.inr 0)), (1, .inl 0), (2, .inl i), (3, .inl 3), (4, .inl j), (5, .inl n)] [.inl 3, .inr (.inr 14)] σ rfl ?_
      refine sw_aald k_X7_copy rfl (i := 14) (n := 4) (r := 21) rfl (by decide) (by decide) (by decide) rfl 31 rfl ?_
      refine sw_blk k_X7_copy 3 38 [(7, .inr (.inr 21)), (6, .inr (.inr 15)), (0, .inr (.inr 0)), (1, .inl 0), (2, .inl i), (3, .inl 3), (4, .inl j), (5, .inl n)] [.inl (σ 15 1)] σ rfl ?_
      refine sw_if_ne k_X7_copy rfl (hσ 15 _) 49 41 (by decide) rfl (fun c9 => ?_) (fun c9 => ?_)
      · refine sw_blk k_X7_copy 2 51 [(7, .inr (.inr 21)), (6, .inr (.inr 15)), (0, .inr (.inr 0)), (1, .inl 0), (2, .inl i), (3, .inl 3), (4, .inl j), (5, .inl n)] [.inl 1, .inr (.inr 0)] σ rfl ?_
        refine sw_callV k_X7_copy rfl cV_X7_finding ml_X7_225 ⟨by decide, by decide⟩ 0 rfl rfl [.inl 1] [] rfl rfl (Nat.le_of_ble_eq_true rfl) 54 rfl (sp_finding σ 1) (fun r10 σ11 hq12 => ?_)
        obtain ⟨rfl, rfl⟩ := hq12
        refine sw_blk k_X7_copy 0 54 [(7, .inr (.inr 21)), (6, .inr (.inr 15)), (0, .inr (.inr 0)), (1, .inl 0), (2, .inl i), (3, .inl 3), (4, .inl j), (5, .inl n)] [.inl (-10 - 1)] (sw_u σ 0 9 1) rfl ?_
        refine sw_ireturn k_X7_copy rfl rfl ?_
        exact Or.inl ⟨by omega, rfl, rfl⟩
      · refine sw_blk k_X7_copy 2 46 [(7, .inr (.inr 21)), (6, .inr (.inr 15)), (0, .inr (.inr 0)), (1, .inl 0), (2, .inl i), (3, .inl 3), (4, .inl j), (5, .inl n)] [.inl (σ 21 1)] σ rfl ?_
        refine sw_if_eq k_X7_copy rfl (hσ 21 _) 55 49 (by decide) rfl (fun c13 => ?_) (fun c13 => ?_)
        · refine sw_blk k_X7_copy 4 65 [(7, .inr (.inr 21)), (6, .inr (.inr 15)), (0, .inr (.inr 0)), (1, .inl 0), (2, .inl i), (3, .inl 3), (4, .inl j), (5, .inl n)] [.inl (σ 21 2), .inl (σ 15 2)] σ rfl ?_
          refine sw_icmp_eq k_X7_copy rfl (hσ 15 _) (hσ 21 _) 74 68 (by decide) rfl (fun c14 => ?_) (fun c14 => ?_)
          · refine sw_blk k_X7_copy 3 79 [(7, .inr (.inr 21)), (6, .inr (.inr 15)), (0, .inr (.inr 0)), (1, .inl 0), (2, .inl i), (3, .inl 3), (4, .inl j), (5, .inl n)] [.inl n, .inl i, .inr (.inr 15)] σ rfl ?_
            refine sw_callV k_X7_copy rfl cV_X4_hasItems ml_X7_251 ⟨by decide, by decide⟩ 15 rfl rfl [.inl i, .inl n] [] rfl rfl (Nat.le_of_ble_eq_true rfl) 82 rfl (sp_hasItems0 σ i n (by omega) (by omega) hs0 hs1) (fun r16 σ17 hq18 => ?_)
            obtain ⟨rfl, ⟨p15, rfl⟩ | ⟨p15, rfl⟩⟩ := hq18
            · refine sw_blk k_X7_copy 0 82 [(7, .inr (.inr 21)), (6, .inr (.inr 15)), (0, .inr (.inr 0)), (1, .inl 0), (2, .inl i), (3, .inl 3), (4, .inl j), (5, .inl n)] [.inl 1] σ rfl ?_
              refine sw_if_eq k_X7_copy rfl (by decide) 97 85 (by decide) rfl (fun c => absurd c (by decide)) (fun _ => ?_)
              refine sw_blk k_X7_copy 3 91 [(7, .inr (.inr 21)), (6, .inr (.inr 15)), (0, .inr (.inr 0)), (1, .inl 0), (2, .inl i), (3, .inl 3), (4, .inl j), (5, .inl n)] [.inl n, .inl j, .inr (.inr 21)] σ rfl ?_
              refine sw_callV k_X7_copy rfl cV_X4_hasItems ml_X7_251 ⟨by decide, by decide⟩ 21 rfl rfl [.inl j, .inl n] [] rfl rfl (Nat.le_of_ble_eq_true rfl) 94 rfl (sp_hasItems3 σ j n (by omega) (by omega) ht0 ht1) (fun r20 σ21 hq22 => ?_)
              obtain ⟨rfl, ⟨p19, rfl⟩ | ⟨p19, rfl⟩⟩ := hq22
              · refine sw_blk k_X7_copy 0 94 [(7, .inr (.inr 21)), (6, .inr (.inr 15)), (0, .inr (.inr 0)), (1, .inl 0), (2, .inl i), (3, .inl 3), (4, .inl j), (5, .inl n)] [.inl 1] σ rfl ?_
                refine sw_if_ne k_X7_copy rfl (by decide) 103 97 (by decide) rfl (fun _ => ?_) (fun c => absurd c (by decide))
                refine sw_blk k_X7_copy 7 118 [(7, .inr (.inr 21)), (6, .inr (.inr 15)), (0, .inr (.inr 0)), (1, .inl 0), (2, .inl i), (3, .inl 3), (4, .inl j), (5, .inl n)] [.inl n, .inl j, .inr (.inr 22), .inl i, .inr (.inr 16)] σ rfl ?_
                refine sw_acopy k_X7_copy rfl (c1 := 16) (c2 := 22) (n1 := 60) (n2 := 60) rfl rfl (by omega) (by omega) (by omega) (by omega) (by omega) (by omega) (by omega) (by omega) 121 rfl ?_
                refine sw_blk k_X7_copy 1 122 [(7, .inr (.inr 21)), (6, .inr (.inr 15)), (0, .inr (.inr 0)), (1, .inl 0), (2, .inl i), (3, .inl 3), (4, .inl j), (5, .inl n)] [.inl 1] (sw_cp σ 16 i 22 j n) rfl ?_
                refine sw_ireturn k_X7_copy rfl rfl ?_
                exact Or.inr (Or.inr (Or.inr ⟨by omega, rfl, rfl⟩))
              · refine sw_blk k_X7_copy 0 94 [(7, .inr (.inr 21)), (6, .inr (.inr 15)), (0, .inr (.inr 0)), (1, .inl 0), (2, .inl i), (3, .inl 3), (4, .inl j), (5, .inl n)] [.inl 0] σ rfl ?_
                refine sw_if_ne k_X7_copy rfl (by decide) 103 97 (by decide) rfl (fun c => absurd (by decide) c) (fun _ => ?_)
                refine sw_blk k_X7_copy 2 99 [(7, .inr (.inr 21)), (6, .inr (.inr 15)), (0, .inr (.inr 0)), (1, .inl 0), (2, .inl i), (3, .inl 3), (4, .inl j), (5, .inl n)] [.inl 2, .inr (.inr 0)] σ rfl ?_
                refine sw_callV k_X7_copy rfl cV_X7_finding ml_X7_225 ⟨by decide, by decide⟩ 0 rfl rfl [.inl 2] [] rfl rfl (Nat.le_of_ble_eq_true rfl) 102 rfl (sp_finding σ 2) (fun r23 σ24 hq25 => ?_)
                obtain ⟨rfl, rfl⟩ := hq25
                refine sw_blk k_X7_copy 0 102 [(7, .inr (.inr 21)), (6, .inr (.inr 15)), (0, .inr (.inr 0)), (1, .inl 0), (2, .inl i), (3, .inl 3), (4, .inl j), (5, .inl n)] [.inl (-10 - 2)] (sw_u σ 0 9 2) rfl ?_
                refine sw_ireturn k_X7_copy rfl rfl ?_
                exact Or.inr (Or.inr (Or.inl ⟨by omega, rfl, rfl⟩))
            · refine sw_blk k_X7_copy 0 82 [(7, .inr (.inr 21)), (6, .inr (.inr 15)), (0, .inr (.inr 0)), (1, .inl 0), (2, .inl i), (3, .inl 3), (4, .inl j), (5, .inl n)] [.inl 0] σ rfl ?_
              refine sw_if_eq k_X7_copy rfl (by decide) 97 85 (by decide) rfl (fun _ => ?_) (fun c => absurd (by decide) c)
              refine sw_blk k_X7_copy 2 99 [(7, .inr (.inr 21)), (6, .inr (.inr 15)), (0, .inr (.inr 0)), (1, .inl 0), (2, .inl i), (3, .inl 3), (4, .inl j), (5, .inl n)] [.inl 2, .inr (.inr 0)] σ rfl ?_
              refine sw_callV k_X7_copy rfl cV_X7_finding ml_X7_225 ⟨by decide, by decide⟩ 0 rfl rfl [.inl 2] [] rfl rfl (Nat.le_of_ble_eq_true rfl) 102 rfl (sp_finding σ 2) (fun r26 σ27 hq28 => ?_)
              obtain ⟨rfl, rfl⟩ := hq28
              refine sw_blk k_X7_copy 0 102 [(7, .inr (.inr 21)), (6, .inr (.inr 15)), (0, .inr (.inr 0)), (1, .inl 0), (2, .inl i), (3, .inl 3), (4, .inl j), (5, .inl n)] [.inl (-10 - 2)] (sw_u σ 0 9 2) rfl ?_
              refine sw_ireturn k_X7_copy rfl rfl ?_
              exact Or.inr (Or.inr (Or.inl ⟨by omega, rfl, rfl⟩))
          · refine sw_blk k_X7_copy 2 70 [(7, .inr (.inr 21)), (6, .inr (.inr 15)), (0, .inr (.inr 0)), (1, .inl 0), (2, .inl i), (3, .inl 3), (4, .inl j), (5, .inl n)] [.inl 4, .inr (.inr 0)] σ rfl ?_
            refine sw_callV k_X7_copy rfl cV_X7_finding ml_X7_225 ⟨by decide, by decide⟩ 0 rfl rfl [.inl 4] [] rfl rfl (Nat.le_of_ble_eq_true rfl) 73 rfl (sp_finding σ 4) (fun r29 σ30 hq31 => ?_)
            obtain ⟨rfl, rfl⟩ := hq31
            refine sw_blk k_X7_copy 0 73 [(7, .inr (.inr 21)), (6, .inr (.inr 15)), (0, .inr (.inr 0)), (1, .inl 0), (2, .inl i), (3, .inl 3), (4, .inl j), (5, .inl n)] [.inl (-10 - 4)] (sw_u σ 0 9 4) rfl ?_
            refine sw_ireturn k_X7_copy rfl rfl ?_
            exact Or.inr (Or.inl ⟨by omega, rfl, rfl⟩)
        · refine sw_blk k_X7_copy 2 51 [(7, .inr (.inr 21)), (6, .inr (.inr 15)), (0, .inr (.inr 0)), (1, .inl 0), (2, .inl i), (3, .inl 3), (4, .inl j), (5, .inl n)] [.inl 1, .inr (.inr 0)] σ rfl ?_
          refine sw_callV k_X7_copy rfl cV_X7_finding ml_X7_225 ⟨by decide, by decide⟩ 0 rfl rfl [.inl 1] [] rfl rfl (Nat.le_of_ble_eq_true rfl) 54 rfl (sp_finding σ 1) (fun r32 σ33 hq34 => ?_)
          obtain ⟨rfl, rfl⟩ := hq34
          refine sw_blk k_X7_copy 0 54 [(7, .inr (.inr 21)), (6, .inr (.inr 15)), (0, .inr (.inr 0)), (1, .inl 0), (2, .inl i), (3, .inl 3), (4, .inl j), (5, .inl n)] [.inl (-10 - 1)] (sw_u σ 0 9 1) rfl ?_
          refine sw_ireturn k_X7_copy rfl rfl ?_
          exact Or.inl ⟨by omega, rfl, rfl⟩
    · exact absurd (by decide) p5
  · exact absurd (by decide) p1
theorem cc_copy10 (σ : sw_S) (hσ : sw_gs σ) (hs0 : 0 ≤ σ 17 3) (hs1 : σ 17 3 ≤ 60) (ht0 : 0 ≤ σ 15 3) (ht1 : σ 15 3 ≤ 60) (i j n : Int) (gi : sw_g i) (gj : sw_g j) (gn : sw_g n) : sw_Con sw_ly sw_rho M_X7_copy [.inr (.inr 0), .inl 1, .inl i, .inl 0, .inl j, .inl n] σ (fun r σ' => ((¬ σ 17 1 = 0 ∨ ¬ σ 15 1 = 0) ∧ r = some (.inl (-10 - 1)) ∧ sw_u σ 0 9 1 = σ') ∨ ((¬ (¬ σ 17 1 = 0 ∨ ¬ σ 15 1 = 0) ∧ ¬ σ 17 2 = σ 15 2) ∧ r = some (.inl (-10 - 4)) ∧ sw_u σ 0 9 4 = σ') ∨ ((¬ (¬ σ 17 1 = 0 ∨ ¬ σ 15 1 = 0) ∧ σ 17 2 = σ 15 2 ∧ ¬ ((0 ≤ i ∧ 0 ≤ n ∧ i ≤ σ 17 3 - n) ∧ (0 ≤ j ∧ 0 ≤ n ∧ j ≤ σ 15 3 - n))) ∧ r = some (.inl (-10 - 2)) ∧ sw_u σ 0 9 2 = σ') ∨ ((¬ (¬ σ 17 1 = 0 ∨ ¬ σ 15 1 = 0) ∧ σ 17 2 = σ 15 2 ∧ ((0 ≤ i ∧ 0 ≤ n ∧ i ≤ σ 17 3 - n) ∧ (0 ≤ j ∧ 0 ≤ n ∧ j ≤ σ 15 3 - n))) ∧ r = some (.inl 1) ∧ sw_cp σ 18 i 16 j n = σ')) := by
  refine sw_con (by decide) (Nat.le_of_ble_eq_true rfl) ?_
  refine sw_blk k_X7_copy 1 1 [(0, .inr (.inr 0)), (1, .inl 1), (2, .inl i), (3, .inl 0), (4, .inl j), (5, .inl n)] [.inl 1] σ rfl ?_
  refine sw_callS k_X7_copy rfl cS_X7_isSheet ml_X7_219 ⟨by decide, by decide⟩ [.inl 1] [] rfl rfl (Nat.le_of_ble_eq_true rfl) 4 rfl (sp_isSheet σ 1 (by decide)) (fun r2 σ3 hq4 => ?_)
  obtain ⟨rfl, ⟨p1, rfl⟩ | ⟨p1, rfl⟩⟩ := hq4
  · refine sw_blk k_X7_copy 0 4 [(0, .inr (.inr 0)), (1, .inl 1), (2, .inl i), (3, .inl 0), (4, .inl j), (5, .inl n)] [.inl 1] σ rfl ?_
    refine sw_if_eq k_X7_copy rfl (by decide) 14 7 (by decide) rfl (fun c => absurd c (by decide)) (fun _ => ?_)
    refine sw_blk k_X7_copy 1 8 [(0, .inr (.inr 0)), (1, .inl 1), (2, .inl i), (3, .inl 0), (4, .inl j), (5, .inl n)] [.inl 0] σ rfl ?_
    refine sw_callS k_X7_copy rfl cS_X7_isSheet ml_X7_219 ⟨by decide, by decide⟩ [.inl 0] [] rfl rfl (Nat.le_of_ble_eq_true rfl) 11 rfl (sp_isSheet σ 0 (by decide)) (fun r6 σ7 hq8 => ?_)
    obtain ⟨rfl, ⟨p5, rfl⟩ | ⟨p5, rfl⟩⟩ := hq8
    · refine sw_blk k_X7_copy 0 11 [(0, .inr (.inr 0)), (1, .inl 1), (2, .inl i), (3, .inl 0), (4, .inl j), (5, .inl n)] [.inl 1] σ rfl ?_
      refine sw_if_ne k_X7_copy rfl (by decide) 17 14 (by decide) rfl (fun _ => ?_) (fun c => absurd c (by decide))
      refine sw_blk k_X7_copy 3 22 [(0, .inr (.inr 0)), (1, .inl 1), (2, .inl i), (3, .inl 0), (4, .inl j), (5, .inl n)] [.inl 1, .inr (.inr 14)] σ rfl ?_
      refine sw_aald k_X7_copy rfl (i := 14) (n := 4) (r := 17) rfl (by decide) (by decide) (by decide) rfl 23 rfl ?_
      refine sw_blk k_X7_copy 4 30 [(6, .inr (.inr 17)), (0, .inr (.inr 0)), (1, .inl 1), (2, .inl i), (3, .inl 0), (4, .inl j), (5, .inl n)] [.inl 0, .inr (.inr 14)] σ rfl ?_
      refine sw_aald k_X7_copy rfl (i := 14) (n := 4) (r := 15) rfl (by decide) (by decide) (by decide) rfl 31 rfl ?_
      refine sw_blk k_X7_copy 3 38 [(7, .inr (.inr 15)), (6, .inr (.inr 17)), (0, .inr (.inr 0)), (1, .inl 1), (2, .inl i), (3, .inl 0), (4, .inl j), (5, .inl n)] [.inl (σ 17 1)] σ rfl ?_
      refine sw_if_ne k_X7_copy rfl (hσ 17 _) 49 41 (by decide) rfl (fun c9 => ?_) (fun c9 => ?_)
      · refine sw_blk k_X7_copy 2 51 [(7, .inr (.inr 15)), (6, .inr (.inr 17)), (0, .inr (.inr 0)), (1, .inl 1), (2, .inl i), (3, .inl 0), (4, .inl j), (5, .inl n)] [.inl 1, .inr (.inr 0)] σ rfl ?_
        refine sw_callV k_X7_copy rfl cV_X7_finding ml_X7_225 ⟨by decide, by decide⟩ 0 rfl rfl [.inl 1] [] rfl rfl (Nat.le_of_ble_eq_true rfl) 54 rfl (sp_finding σ 1) (fun r10 σ11 hq12 => ?_)
        obtain ⟨rfl, rfl⟩ := hq12
        refine sw_blk k_X7_copy 0 54 [(7, .inr (.inr 15)), (6, .inr (.inr 17)), (0, .inr (.inr 0)), (1, .inl 1), (2, .inl i), (3, .inl 0), (4, .inl j), (5, .inl n)] [.inl (-10 - 1)] (sw_u σ 0 9 1) rfl ?_
        refine sw_ireturn k_X7_copy rfl rfl ?_
        exact Or.inl ⟨by omega, rfl, rfl⟩
      · refine sw_blk k_X7_copy 2 46 [(7, .inr (.inr 15)), (6, .inr (.inr 17)), (0, .inr (.inr 0)), (1, .inl 1), (2, .inl i), (3, .inl 0), (4, .inl j), (5, .inl n)] [.inl (σ 15 1)] σ rfl ?_
        refine sw_if_eq k_X7_copy rfl (hσ 15 _) 55 49 (by decide) rfl (fun c13 => ?_) (fun c13 => ?_)
        · refine sw_blk k_X7_copy 4 65 [(7, .inr (.inr 15)), (6, .inr (.inr 17)), (0, .inr (.inr 0)), (1, .inl 1), (2, .inl i), (3, .inl 0), (4, .inl j), (5, .inl n)] [.inl (σ 15 2), .inl (σ 17 2)] σ rfl ?_
          refine sw_icmp_eq k_X7_copy rfl (hσ 17 _) (hσ 15 _) 74 68 (by decide) rfl (fun c14 => ?_) (fun c14 => ?_)
          · refine sw_blk k_X7_copy 3 79 [(7, .inr (.inr 15)), (6, .inr (.inr 17)), (0, .inr (.inr 0)), (1, .inl 1), (2, .inl i), (3, .inl 0), (4, .inl j), (5, .inl n)] [.inl n, .inl i, .inr (.inr 17)] σ rfl ?_
            refine sw_callV k_X7_copy rfl cV_X4_hasItems ml_X7_251 ⟨by decide, by decide⟩ 17 rfl rfl [.inl i, .inl n] [] rfl rfl (Nat.le_of_ble_eq_true rfl) 82 rfl (sp_hasItems1 σ i n (by omega) (by omega) hs0 hs1) (fun r16 σ17 hq18 => ?_)
            obtain ⟨rfl, ⟨p15, rfl⟩ | ⟨p15, rfl⟩⟩ := hq18
            · refine sw_blk k_X7_copy 0 82 [(7, .inr (.inr 15)), (6, .inr (.inr 17)), (0, .inr (.inr 0)), (1, .inl 1), (2, .inl i), (3, .inl 0), (4, .inl j), (5, .inl n)] [.inl 1] σ rfl ?_
              refine sw_if_eq k_X7_copy rfl (by decide) 97 85 (by decide) rfl (fun c => absurd c (by decide)) (fun _ => ?_)
              refine sw_blk k_X7_copy 3 91 [(7, .inr (.inr 15)), (6, .inr (.inr 17)), (0, .inr (.inr 0)), (1, .inl 1), (2, .inl i), (3, .inl 0), (4, .inl j), (5, .inl n)] [.inl n, .inl j, .inr (.inr 15)] σ rfl ?_
              refine sw_callV k_X7_copy rfl cV_X4_hasItems ml_X7_251 ⟨by decide, by decide⟩ 15 rfl rfl [.inl j, .inl n] [] rfl rfl (Nat.le_of_ble_eq_true rfl) 94 rfl (sp_hasItems0 σ j n (by omega) (by omega) ht0 ht1) (fun r20 σ21 hq22 => ?_)
              obtain ⟨rfl, ⟨p19, rfl⟩ | ⟨p19, rfl⟩⟩ := hq22
              · refine sw_blk k_X7_copy 0 94 [(7, .inr (.inr 15)), (6, .inr (.inr 17)), (0, .inr (.inr 0)), (1, .inl 1), (2, .inl i), (3, .inl 0), (4, .inl j), (5, .inl n)] [.inl 1] σ rfl ?_
                refine sw_if_ne k_X7_copy rfl (by decide) 103 97 (by decide) rfl (fun _ => ?_) (fun c => absurd c (by decide))
                refine sw_blk k_X7_copy 7 118 [(7, .inr (.inr 15)), (6, .inr (.inr 17)), (0, .inr (.inr 0)), (1, .inl 1), (2, .inl i), (3, .inl 0), (4, .inl j), (5, .inl n)] [.inl n, .inl j, .inr (.inr 16), .inl i, .inr (.inr 18)] σ rfl ?_
                refine sw_acopy k_X7_copy rfl (c1 := 18) (c2 := 16) (n1 := 60) (n2 := 60) rfl rfl (by omega) (by omega) (by omega) (by omega) (by omega) (by omega) (by omega) (by omega) 121 rfl ?_
                refine sw_blk k_X7_copy 1 122 [(7, .inr (.inr 15)), (6, .inr (.inr 17)), (0, .inr (.inr 0)), (1, .inl 1), (2, .inl i), (3, .inl 0), (4, .inl j), (5, .inl n)] [.inl 1] (sw_cp σ 18 i 16 j n) rfl ?_
                refine sw_ireturn k_X7_copy rfl rfl ?_
                exact Or.inr (Or.inr (Or.inr ⟨by omega, rfl, rfl⟩))
              · refine sw_blk k_X7_copy 0 94 [(7, .inr (.inr 15)), (6, .inr (.inr 17)), (0, .inr (.inr 0)), (1, .inl 1), (2, .inl i), (3, .inl 0), (4, .inl j), (5, .inl n)] [.inl 0] σ rfl ?_
                refine sw_if_ne k_X7_copy rfl (by decide) 103 97 (by decide) rfl (fun c => absurd (by decide) c) (fun _ => ?_)
                refine sw_blk k_X7_copy 2 99 [(7, .inr (.inr 15)), (6, .inr (.inr 17)), (0, .inr (.inr 0)), (1, .inl 1), (2, .inl i), (3, .inl 0), (4, .inl j), (5, .inl n)] [.inl 2, .inr (.inr 0)] σ rfl ?_
                refine sw_callV k_X7_copy rfl cV_X7_finding ml_X7_225 ⟨by decide, by decide⟩ 0 rfl rfl [.inl 2] [] rfl rfl (Nat.le_of_ble_eq_true rfl) 102 rfl (sp_finding σ 2) (fun r23 σ24 hq25 => ?_)
                obtain ⟨rfl, rfl⟩ := hq25
                refine sw_blk k_X7_copy 0 102 [(7, .inr (.inr 15)), (6, .inr (.inr 17)), (0, .inr (.inr 0)), (1, .inl 1), (2, .inl i), (3, .inl 0), (4, .inl j), (5, .inl n)] [.inl (-10 - 2)] (sw_u σ 0 9 2) rfl ?_
                refine sw_ireturn k_X7_copy rfl rfl ?_
                exact Or.inr (Or.inr (Or.inl ⟨by omega, rfl, rfl⟩))
            · refine sw_blk k_X7_copy 0 82 [(7, .inr (.inr 15)), (6, .inr (.inr 17)), (0, .inr (.inr 0)), (1, .inl 1), (2, .inl i), (3, .inl 0), (4, .inl j), (5, .inl n)] [.inl 0] σ rfl ?_
              refine sw_if_eq k_X7_copy rfl (by decide) 97 85 (by decide) rfl (fun _ => ?_) (fun c => absurd (by decide) c)
              refine sw_blk k_X7_copy 2 99 [(7, .inr (.inr 15)), (6, .inr (.inr 17)), (0, .inr (.inr 0)), (1, .inl 1), (2, .inl i), (3, .inl 0), (4, .inl j), (5, .inl n)] [.inl 2, .inr (.inr 0)] σ rfl ?_
              refine sw_callV k_X7_copy rfl cV_X7_finding ml_X7_225 ⟨by decide, by decide⟩ 0 rfl rfl [.inl 2] [] rfl rfl (Nat.le_of_ble_eq_true rfl) 102 rfl (sp_finding σ 2) (fun r26 σ27 hq28 => ?_)
              obtain ⟨rfl, rfl⟩ := hq28
              refine sw_blk k_X7_copy 0 102 [(7, .inr (.inr 15)), (6, .inr (.inr 17)), (0, .inr (.inr 0)), (1, .inl 1), (2, .inl i), (3, .inl 0), (4, .inl j), (5, .inl n)] [.inl (-10 - 2)] (sw_u σ 0 9 2) rfl ?_
              refine sw_ireturn k_X7_copy rfl rfl ?_
              exact Or.inr (Or.inr (Or.inl ⟨by omega, rfl, rfl⟩))
          · refine sw_blk k_X7_copy 2 70 [(7, .inr (.inr 15)), (6, .inr (.inr 17)), (0, .inr (.inr 0)), (1, .inl 1), (2, .inl i), (3, .inl 0), (4, .inl j), (5, .inl n)] [.inl 4, .inr (.inr 0)] σ rfl ?_
            refine sw_callV k_X7_copy rfl cV_X7_finding ml_X7_225 ⟨by decide, by decide⟩ 0 rfl rfl [.inl 4] [] rfl rfl (Nat.le_of_ble_eq_true rfl) 73 rfl (sp_finding σ 4) (fun r29 σ30 hq31 => ?_)
            obtain ⟨rfl, rfl⟩ := hq31
            refine sw_blk k_X7_copy 0 73 [(7, .inr (.inr 15)), (6, .inr (.inr 17)), (0, .inr (.inr 0)), (1, .inl 1), (2, .inl i), (3, .inl 0), (4, .inl j), (5, .inl n)] [.inl (-10 - 4)] (sw_u σ 0 9 4) rfl ?_
            refine sw_ireturn k_X7_copy rfl rfl ?_
            exact Or.inr (Or.inl ⟨by omega, rfl, rfl⟩)
        · refine sw_blk k_X7_copy 2 51 [(7, .inr (.inr 15)), (6, .inr (.inr 17)), (0, .inr (.inr 0)), (1, .inl 1), (2, .inl i), (3, .inl 0), (4, .inl j), (5, .inl n)] [.inl 1, .inr (.inr 0)] σ rfl ?_
          refine sw_callV k_X7_copy rfl cV_X7_finding ml_X7_225 ⟨by decide, by decide⟩ 0 rfl rfl [.inl 1] [] rfl rfl (Nat.le_of_ble_eq_true rfl) 54 rfl (sp_finding σ 1) (fun r32 σ33 hq34 => ?_)
          obtain ⟨rfl, rfl⟩ := hq34
          refine sw_blk k_X7_copy 0 54 [(7, .inr (.inr 15)), (6, .inr (.inr 17)), (0, .inr (.inr 0)), (1, .inl 1), (2, .inl i), (3, .inl 0), (4, .inl j), (5, .inl n)] [.inl (-10 - 1)] (sw_u σ 0 9 1) rfl ?_
          refine sw_ireturn k_X7_copy rfl rfl ?_
          exact Or.inl ⟨by omega, rfl, rfl⟩
    · exact absurd (by decide) p5
  · exact absurd (by decide) p1
theorem cc_copy11 (σ : sw_S) (hσ : sw_gs σ) (hs0 : 0 ≤ σ 17 3) (hs1 : σ 17 3 ≤ 60) (ht0 : 0 ≤ σ 17 3) (ht1 : σ 17 3 ≤ 60) (i j n : Int) (gi : sw_g i) (gj : sw_g j) (gn : sw_g n) : sw_Con sw_ly sw_rho M_X7_copy [.inr (.inr 0), .inl 1, .inl i, .inl 1, .inl j, .inl n] σ (fun r σ' => ((¬ σ 17 1 = 0 ∨ ¬ σ 17 1 = 0) ∧ r = some (.inl (-10 - 1)) ∧ sw_u σ 0 9 1 = σ') ∨ ((¬ (¬ σ 17 1 = 0 ∨ ¬ σ 17 1 = 0) ∧ ¬ σ 17 2 = σ 17 2) ∧ r = some (.inl (-10 - 4)) ∧ sw_u σ 0 9 4 = σ') ∨ ((¬ (¬ σ 17 1 = 0 ∨ ¬ σ 17 1 = 0) ∧ σ 17 2 = σ 17 2 ∧ ¬ ((0 ≤ i ∧ 0 ≤ n ∧ i ≤ σ 17 3 - n) ∧ (0 ≤ j ∧ 0 ≤ n ∧ j ≤ σ 17 3 - n))) ∧ r = some (.inl (-10 - 2)) ∧ sw_u σ 0 9 2 = σ') ∨ ((¬ (¬ σ 17 1 = 0 ∨ ¬ σ 17 1 = 0) ∧ σ 17 2 = σ 17 2 ∧ ((0 ≤ i ∧ 0 ≤ n ∧ i ≤ σ 17 3 - n) ∧ (0 ≤ j ∧ 0 ≤ n ∧ j ≤ σ 17 3 - n))) ∧ r = some (.inl 1) ∧ sw_cp σ 18 i 18 j n = σ')) := by
  refine sw_con (by decide) (Nat.le_of_ble_eq_true rfl) ?_
  refine sw_blk k_X7_copy 1 1 [(0, .inr (.inr 0)), (1, .inl 1), (2, .inl i), (3, .inl 1), (4, .inl j), (5, .inl n)] [.inl 1] σ rfl ?_
  refine sw_callS k_X7_copy rfl cS_X7_isSheet ml_X7_219 ⟨by decide, by decide⟩ [.inl 1] [] rfl rfl (Nat.le_of_ble_eq_true rfl) 4 rfl (sp_isSheet σ 1 (by decide)) (fun r2 σ3 hq4 => ?_)
  obtain ⟨rfl, ⟨p1, rfl⟩ | ⟨p1, rfl⟩⟩ := hq4
  · refine sw_blk k_X7_copy 0 4 [(0, .inr (.inr 0)), (1, .inl 1), (2, .inl i), (3, .inl 1), (4, .inl j), (5, .inl n)] [.inl 1] σ rfl ?_
    refine sw_if_eq k_X7_copy rfl (by decide) 14 7 (by decide) rfl (fun c => absurd c (by decide)) (fun _ => ?_)
    refine sw_blk k_X7_copy 1 8 [(0, .inr (.inr 0)), (1, .inl 1), (2, .inl i), (3, .inl 1), (4, .inl j), (5, .inl n)] [.inl 1] σ rfl ?_
    refine sw_callS k_X7_copy rfl cS_X7_isSheet ml_X7_219 ⟨by decide, by decide⟩ [.inl 1] [] rfl rfl (Nat.le_of_ble_eq_true rfl) 11 rfl (sp_isSheet σ 1 (by decide)) (fun r6 σ7 hq8 => ?_)
    obtain ⟨rfl, ⟨p5, rfl⟩ | ⟨p5, rfl⟩⟩ := hq8
    · refine sw_blk k_X7_copy 0 11 [(0, .inr (.inr 0)), (1, .inl 1), (2, .inl i), (3, .inl 1), (4, .inl j), (5, .inl n)] [.inl 1] σ rfl ?_
      refine sw_if_ne k_X7_copy rfl (by decide) 17 14 (by decide) rfl (fun _ => ?_) (fun c => absurd c (by decide))
      refine sw_blk k_X7_copy 3 22 [(0, .inr (.inr 0)), (1, .inl 1), (2, .inl i), (3, .inl 1), (4, .inl j), (5, .inl n)] [.inl 1, .inr (.inr 14)] σ rfl ?_
      refine sw_aald k_X7_copy rfl (i := 14) (n := 4) (r := 17) rfl (by decide) (by decide) (by decide) rfl 23 rfl ?_
      refine sw_blk k_X7_copy 4 30 [(6, .inr (.inr 17)), (0, .inr (.inr 0)), (1, .inl 1), (2, .inl i), (3, .inl 1), (4, .inl j), (5, .inl n)] [.inl 1, .inr (.inr 14)] σ rfl ?_
      refine sw_aald k_X7_copy rfl (i := 14) (n := 4) (r := 17) rfl (by decide) (by decide) (by decide) rfl 31 rfl ?_
      refine sw_blk k_X7_copy 3 38 [(7, .inr (.inr 17)), (6, .inr (.inr 17)), (0, .inr (.inr 0)), (1, .inl 1), (2, .inl i), (3, .inl 1), (4, .inl j), (5, .inl n)] [.inl (σ 17 1)] σ rfl ?_
      refine sw_if_ne k_X7_copy rfl (hσ 17 _) 49 41 (by decide) rfl (fun c9 => ?_) (fun c9 => ?_)
      · refine sw_blk k_X7_copy 2 51 [(7, .inr (.inr 17)), (6, .inr (.inr 17)), (0, .inr (.inr 0)), (1, .inl 1), (2, .inl i), (3, .inl 1), (4, .inl j), (5, .inl n)] [.inl 1, .inr (.inr 0)] σ rfl ?_
        refine sw_callV k_X7_copy rfl cV_X7_finding ml_X7_225 ⟨by decide, by decide⟩ 0 rfl rfl [.inl 1] [] rfl rfl (Nat.le_of_ble_eq_true rfl) 54 rfl (sp_finding σ 1) (fun r10 σ11 hq12 => ?_)
        obtain ⟨rfl, rfl⟩ := hq12
        refine sw_blk k_X7_copy 0 54 [(7, .inr (.inr 17)), (6, .inr (.inr 17)), (0, .inr (.inr 0)), (1, .inl 1), (2, .inl i), (3, .inl 1), (4, .inl j), (5, .inl n)] [.inl (-10 - 1)] (sw_u σ 0 9 1) rfl ?_
        refine sw_ireturn k_X7_copy rfl rfl ?_
        exact Or.inl ⟨by omega, rfl, rfl⟩
      · refine sw_blk k_X7_copy 2 46 [(7, .inr (.inr 17)), (6, .inr (.inr 17)), (0, .inr (.inr 0)), (1, .inl 1), (2, .inl i), (3, .inl 1), (4, .inl j), (5, .inl n)] [.inl (σ 17 1)] σ rfl ?_
        refine sw_if_eq k_X7_copy rfl (hσ 17 _) 55 49 (by decide) rfl (fun c13 => ?_) (fun c13 => ?_)
        · refine sw_blk k_X7_copy 4 65 [(7, .inr (.inr 17)), (6, .inr (.inr 17)), (0, .inr (.inr 0)), (1, .inl 1), (2, .inl i), (3, .inl 1), (4, .inl j), (5, .inl n)] [.inl (σ 17 2), .inl (σ 17 2)] σ rfl ?_
          refine sw_icmp_eq k_X7_copy rfl (hσ 17 _) (hσ 17 _) 74 68 (by decide) rfl (fun c14 => ?_) (fun c14 => ?_)
          · refine sw_blk k_X7_copy 3 79 [(7, .inr (.inr 17)), (6, .inr (.inr 17)), (0, .inr (.inr 0)), (1, .inl 1), (2, .inl i), (3, .inl 1), (4, .inl j), (5, .inl n)] [.inl n, .inl i, .inr (.inr 17)] σ rfl ?_
            refine sw_callV k_X7_copy rfl cV_X4_hasItems ml_X7_251 ⟨by decide, by decide⟩ 17 rfl rfl [.inl i, .inl n] [] rfl rfl (Nat.le_of_ble_eq_true rfl) 82 rfl (sp_hasItems1 σ i n (by omega) (by omega) hs0 hs1) (fun r16 σ17 hq18 => ?_)
            obtain ⟨rfl, ⟨p15, rfl⟩ | ⟨p15, rfl⟩⟩ := hq18
            · refine sw_blk k_X7_copy 0 82 [(7, .inr (.inr 17)), (6, .inr (.inr 17)), (0, .inr (.inr 0)), (1, .inl 1), (2, .inl i), (3, .inl 1), (4, .inl j), (5, .inl n)] [.inl 1] σ rfl ?_
              refine sw_if_eq k_X7_copy rfl (by decide) 97 85 (by decide) rfl (fun c => absurd c (by decide)) (fun _ => ?_)
              refine sw_blk k_X7_copy 3 91 [(7, .inr (.inr 17)), (6, .inr (.inr 17)), (0, .inr (.inr 0)), (1, .inl 1), (2, .inl i), (3, .inl 1), (4, .inl j), (5, .inl n)] [.inl n, .inl j, .inr (.inr 17)] σ rfl ?_
              refine sw_callV k_X7_copy rfl cV_X4_hasItems ml_X7_251 ⟨by decide, by decide⟩ 17 rfl rfl [.inl j, .inl n] [] rfl rfl (Nat.le_of_ble_eq_true rfl) 94 rfl (sp_hasItems1 σ j n (by omega) (by omega) hs0 hs1) (fun r20 σ21 hq22 => ?_)
              obtain ⟨rfl, ⟨p19, rfl⟩ | ⟨p19, rfl⟩⟩ := hq22
              · refine sw_blk k_X7_copy 0 94 [(7, .inr (.inr 17)), (6, .inr (.inr 17)), (0, .inr (.inr 0)), (1, .inl 1), (2, .inl i), (3, .inl 1), (4, .inl j), (5, .inl n)] [.inl 1] σ rfl ?_
                refine sw_if_ne k_X7_copy rfl (by decide) 103 97 (by decide) rfl (fun _ => ?_) (fun c => absurd c (by decide))
                refine sw_blk k_X7_copy 7 118 [(7, .inr (.inr 17)), (6, .inr (.inr 17)), (0, .inr (.inr 0)), (1, .inl 1), (2, .inl i), (3, .inl 1), (4, .inl j), (5, .inl n)] [.inl n, .inl j, .inr (.inr 18), .inl i, .inr (.inr 18)] σ rfl ?_
                refine sw_acopy k_X7_copy rfl (c1 := 18) (c2 := 18) (n1 := 60) (n2 := 60) rfl rfl (by omega) (by omega) (by omega) (by omega) (by omega) (by omega) (by omega) (by omega) 121 rfl ?_
                refine sw_blk k_X7_copy 1 122 [(7, .inr (.inr 17)), (6, .inr (.inr 17)), (0, .inr (.inr 0)), (1, .inl 1), (2, .inl i), (3, .inl 1), (4, .inl j), (5, .inl n)] [.inl 1] (sw_cp σ 18 i 18 j n) rfl ?_
                refine sw_ireturn k_X7_copy rfl rfl ?_
                exact Or.inr (Or.inr (Or.inr ⟨by omega, rfl, rfl⟩))
              · refine sw_blk k_X7_copy 0 94 [(7, .inr (.inr 17)), (6, .inr (.inr 17)), (0, .inr (.inr 0)), (1, .inl 1), (2, .inl i), (3, .inl 1), (4, .inl j), (5, .inl n)] [.inl 0] σ rfl ?_
                refine sw_if_ne k_X7_copy rfl (by decide) 103 97 (by decide) rfl (fun c => absurd (by decide) c) (fun _ => ?_)
                refine sw_blk k_X7_copy 2 99 [(7, .inr (.inr 17)), (6, .inr (.inr 17)), (0, .inr (.inr 0)), (1, .inl 1), (2, .inl i), (3, .inl 1), (4, .inl j), (5, .inl n)] [.inl 2, .inr (.inr 0)] σ rfl ?_
                refine sw_callV k_X7_copy rfl cV_X7_finding ml_X7_225 ⟨by decide, by decide⟩ 0 rfl rfl [.inl 2] [] rfl rfl (Nat.le_of_ble_eq_true rfl) 102 rfl (sp_finding σ 2) (fun r23 σ24 hq25 => ?_)
                obtain ⟨rfl, rfl⟩ := hq25
                refine sw_blk k_X7_copy 0 102 [(7, .inr (.inr 17)), (6, .inr (.inr 17)), (0, .inr (.inr 0)), (1, .inl 1), (2, .inl i), (3, .inl 1), (4, .inl j), (5, .inl n)] [.inl (-10 - 2)] (sw_u σ 0 9 2) rfl ?_
                refine sw_ireturn k_X7_copy rfl rfl ?_
                exact Or.inr (Or.inr (Or.inl ⟨by omega, rfl, rfl⟩))
            · refine sw_blk k_X7_copy 0 82 [(7, .inr (.inr 17)), (6, .inr (.inr 17)), (0, .inr (.inr 0)), (1, .inl 1), (2, .inl i), (3, .inl 1), (4, .inl j), (5, .inl n)] [.inl 0] σ rfl ?_
              refine sw_if_eq k_X7_copy rfl (by decide) 97 85 (by decide) rfl (fun _ => ?_) (fun c => absurd (by decide) c)
              refine sw_blk k_X7_copy 2 99 [(7, .inr (.inr 17)), (6, .inr (.inr 17)), (0, .inr (.inr 0)), (1, .inl 1), (2, .inl i), (3, .inl 1), (4, .inl j), (5, .inl n)] [.inl 2, .inr (.inr 0)] σ rfl ?_
              refine sw_callV k_X7_copy rfl cV_X7_finding ml_X7_225 ⟨by decide, by decide⟩ 0 rfl rfl [.inl 2] [] rfl rfl (Nat.le_of_ble_eq_true rfl) 102 rfl (sp_finding σ 2) (fun r26 σ27 hq28 => ?_)
              obtain ⟨rfl, rfl⟩ := hq28
              refine sw_blk k_X7_copy 0 102 [(7, .inr (.inr 17)), (6, .inr (.inr 17)), (0, .inr (.inr 0)), (1, .inl 1), (2, .inl i), (3, .inl 1), (4, .inl j), (5, .inl n)] [.inl (-10 - 2)] (sw_u σ 0 9 2) rfl ?_
              refine sw_ireturn k_X7_copy rfl rfl ?_
              exact Or.inr (Or.inr (Or.inl ⟨by omega, rfl, rfl⟩))
          · refine sw_blk k_X7_copy 2 70 [(7, .inr (.inr 17)), (6, .inr (.inr 17)), (0, .inr (.inr 0)), (1, .inl 1), (2, .inl i), (3, .inl 1), (4, .inl j), (5, .inl n)] [.inl 4, .inr (.inr 0)] σ rfl ?_
            refine sw_callV k_X7_copy rfl cV_X7_finding ml_X7_225 ⟨by decide, by decide⟩ 0 rfl rfl [.inl 4] [] rfl rfl (Nat.le_of_ble_eq_true rfl) 73 rfl (sp_finding σ 4) (fun r29 σ30 hq31 => ?_)
            obtain ⟨rfl, rfl⟩ := hq31
            refine sw_blk k_X7_copy 0 73 [(7, .inr (.inr 17)), (6, .inr (.inr 17)), (0, .inr (.inr 0)), (1, .inl 1), (2, .inl i), (3, .inl 1), (4, .inl j), (5, .inl n)] [.inl (-10 - 4)] (sw_u σ 0 9 4) rfl ?_
            refine sw_ireturn k_X7_copy rfl rfl ?_
            exact Or.inr (Or.inl ⟨by omega, rfl, rfl⟩)
        · refine sw_blk k_X7_copy 2 51 [(7, .inr (.inr 17)), (6, .inr (.inr 17)), (0, .inr (.inr 0)), (1, .inl 1), (2, .inl i), (3, .inl 1), (4, .inl j), (5, .inl n)] [.inl 1, .inr (.inr 0)] σ rfl ?_
          refine sw_callV k_X7_copy rfl cV_X7_finding ml_X7_225 ⟨by decide, by decide⟩ 0 rfl rfl [.inl 1] [] rfl rfl (Nat.le_of_ble_eq_true rfl) 54 rfl (sp_finding σ 1) (fun r32 σ33 hq34 => ?_)
          obtain ⟨rfl, rfl⟩ := hq34
          refine sw_blk k_X7_copy 0 54 [(7, .inr (.inr 17)), (6, .inr (.inr 17)), (0, .inr (.inr 0)), (1, .inl 1), (2, .inl i), (3, .inl 1), (4, .inl j), (5, .inl n)] [.inl (-10 - 1)] (sw_u σ 0 9 1) rfl ?_
          refine sw_ireturn k_X7_copy rfl rfl ?_
          exact Or.inl ⟨by omega, rfl, rfl⟩
    · exact absurd (by decide) p5
  · exact absurd (by decide) p1
theorem cc_copy12 (σ : sw_S) (hσ : sw_gs σ) (hs0 : 0 ≤ σ 17 3) (hs1 : σ 17 3 ≤ 60) (ht0 : 0 ≤ σ 19 3) (ht1 : σ 19 3 ≤ 60) (i j n : Int) (gi : sw_g i) (gj : sw_g j) (gn : sw_g n) : sw_Con sw_ly sw_rho M_X7_copy [.inr (.inr 0), .inl 1, .inl i, .inl 2, .inl j, .inl n] σ (fun r σ' => ((¬ σ 17 1 = 0 ∨ ¬ σ 19 1 = 0) ∧ r = some (.inl (-10 - 1)) ∧ sw_u σ 0 9 1 = σ') ∨ ((¬ (¬ σ 17 1 = 0 ∨ ¬ σ 19 1 = 0) ∧ ¬ σ 17 2 = σ 19 2) ∧ r = some (.inl (-10 - 4)) ∧ sw_u σ 0 9 4 = σ') ∨ ((¬ (¬ σ 17 1 = 0 ∨ ¬ σ 19 1 = 0) ∧ σ 17 2 = σ 19 2 ∧ ¬ ((0 ≤ i ∧ 0 ≤ n ∧ i ≤ σ 17 3 - n) ∧ (0 ≤ j ∧ 0 ≤ n ∧ j ≤ σ 19 3 - n))) ∧ r = some (.inl (-10 - 2)) ∧ sw_u σ 0 9 2 = σ') ∨ ((¬ (¬ σ 17 1 = 0 ∨ ¬ σ 19 1 = 0) ∧ σ 17 2 = σ 19 2 ∧ ((0 ≤ i ∧ 0 ≤ n ∧ i ≤ σ 17 3 - n) ∧ (0 ≤ j ∧ 0 ≤ n ∧ j ≤ σ 19 3 - n))) ∧ r = some (.inl 1) ∧ sw_cp σ 18 i 20 j n = σ')) := by
  refine sw_con (by decide) (Nat.le_of_ble_eq_true rfl) ?_
  refine sw_blk k_X7_copy 1 1 [(0, .inr (.inr 0)), (1, .inl 1), (2, .inl i), (3, .inl 2), (4, .inl j), (5, .inl n)] [.inl 1] σ rfl ?_
  refine sw_callS k_X7_copy rfl cS_X7_isSheet ml_X7_219 ⟨by decide, by decide⟩ [.inl 1] [] rfl rfl (Nat.le_of_ble_eq_true rfl) 4 rfl (sp_isSheet σ 1 (by decide)) (fun r2 σ3 hq4 => ?_)
  obtain ⟨rfl, ⟨p1, rfl⟩ | ⟨p1, rfl⟩⟩ := hq4
  · refine sw_blk k_X7_copy 0 4 [(0, .inr (.inr 0)), (1, .inl 1), (2, .inl i), (3, .inl 2), (4, .inl j), (5, .inl n)] [.inl 1] σ rfl ?_
    refine sw_if_eq k_X7_copy rfl (by decide) 14 7 (by decide) rfl (fun c => absurd c (by decide)) (fun _ => ?_)
    refine sw_blk k_X7_copy 1 8 [(0, .inr (.inr 0)), (1, .inl 1), (2, .inl i), (3, .inl 2), (4, .inl j), (5, .inl n)] [.inl 2] σ rfl ?_
    refine sw_callS k_X7_copy rfl cS_X7_isSheet ml_X7_219 ⟨by decide, by decide⟩ [.inl 2] [] rfl rfl (Nat.le_of_ble_eq_true rfl) 11 rfl (sp_isSheet σ 2 (by decide)) (fun r6 σ7 hq8 => ?_)
    obtain ⟨rfl, ⟨p5, rfl⟩ | ⟨p5, rfl⟩⟩ := hq8
    · refine sw_blk k_X7_copy 0 11 [(0, .inr (.inr 0)), (1, .inl 1), (2, .inl i), (3, .inl 2), (4, .inl j), (5, .inl n)] [.inl 1] σ rfl ?_
      refine sw_if_ne k_X7_copy rfl (by decide) 17 14 (by decide) rfl (fun _ => ?_) (fun c => absurd c (by decide))
      refine sw_blk k_X7_copy 3 22 [(0, .inr (.inr 0)), (1, .inl 1), (2, .inl i), (3, .inl 2), (4, .inl j), (5, .inl n)] [.inl 1, .inr (.inr 14)] σ rfl ?_
      refine sw_aald k_X7_copy rfl (i := 14) (n := 4) (r := 17) rfl (by decide) (by decide) (by decide) rfl 23 rfl ?_
      refine sw_blk k_X7_copy 4 30 [(6, .inr (.inr 17)), (0, .inr (.inr 0)), (1, .inl 1), (2, .inl i), (3, .inl 2), (4, .inl j), (5, .inl n)] [.inl 2, .inr (.inr 14)] σ rfl ?_
      refine sw_aald k_X7_copy rfl (i := 14) (n := 4) (r := 19) rfl (by decide) (by decide) (by decide) rfl 31 rfl ?_
      refine sw_blk k_X7_copy 3 38 [(7, .inr (.inr 19)), (6, .inr (.inr 17)), (0, .inr (.inr 0)), (1, .inl 1), (2, .inl i), (3, .inl 2), (4, .inl j), (5, .inl n)] [.inl (σ 17 1)] σ rfl ?_
      refine sw_if_ne k_X7_copy rfl (hσ 17 _) 49 41 (by decide) rfl (fun c9 => ?_) (fun c9 => ?_)
      · refine sw_blk k_X7_copy 2 51 [(7, .inr (.inr 19)), (6, .inr (.inr 17)), (0, .inr (.inr 0)), (1, .inl 1), (2, .inl i), (3, .inl 2), (4, .inl j), (5, .inl n)] [.inl 1, .inr (.inr 0)] σ rfl ?_
        refine sw_callV k_X7_copy rfl cV_X7_finding ml_X7_225 ⟨by decide, by decide⟩ 0 rfl rfl [.inl 1] [] rfl rfl (Nat.le_of_ble_eq_true rfl) 54 rfl (sp_finding σ 1) (fun r10 σ11 hq12 => ?_)
        obtain ⟨rfl, rfl⟩ := hq12
        refine sw_blk k_X7_copy 0 54 [(7, .inr (.inr 19)), (6, .inr (.inr 17)), (0, .inr (.inr 0)), (1, .inl 1), (2, .inl i), (3, .inl 2), (4, .inl j), (5, .inl n)] [.inl (-10 - 1)] (sw_u σ 0 9 1) rfl ?_
        refine sw_ireturn k_X7_copy rfl rfl ?_
        exact Or.inl ⟨by omega, rfl, rfl⟩
      · refine sw_blk k_X7_copy 2 46 [(7, .inr (.inr 19)), (6, .inr (.inr 17)), (0, .inr (.inr 0)), (1, .inl 1), (2, .inl i), (3, .inl 2), (4, .inl j), (5, .inl n)] [.inl (σ 19 1)] σ rfl ?_
        refine sw_if_eq k_X7_copy rfl (hσ 19 _) 55 49 (by decide) rfl (fun c13 => ?_) (fun c13 => ?_)
        · refine sw_blk k_X7_copy 4 65 [(7, .inr (.inr 19)), (6, .inr (.inr 17)), (0, .inr (.inr 0)), (1, .inl 1), (2, .inl i), (3, .inl 2), (4, .inl j), (5, .inl n)] [.inl (σ 19 2), .inl (σ 17 2)] σ rfl ?_
          refine sw_icmp_eq k_X7_copy rfl (hσ 17 _) (hσ 19 _) 74 68 (by decide) rfl (fun c14 => ?_) (fun c14 => ?_)
          · refine sw_blk k_X7_copy 3 79 [(7, .inr (.inr 19)), (6, .inr (.inr 17)), (0, .inr (.inr 0)), (1, .inl 1), (2, .inl i), (3, .inl 2), (4, .inl j), (5, .inl n)] [.inl n, .inl i, .inr (.inr 17)] σ rfl ?_
            refine sw_callV k_X7_copy rfl cV_X4_hasItems ml_X7_251 ⟨by decide, by decide⟩ 17 rfl rfl [.inl i, .inl n] [] rfl rfl (Nat.le_of_ble_eq_true rfl) 82 rfl (sp_hasItems1 σ i n (by omega) (by omega) hs0 hs1) (fun r16 σ17 hq18 => ?_)
            obtain ⟨rfl, ⟨p15, rfl⟩ | ⟨p15, rfl⟩⟩ := hq18
            · refine sw_blk k_X7_copy 0 82 [(7, .inr (.inr 19)), (6, .inr (.inr 17)), (0, .inr (.inr 0)), (1, .inl 1), (2, .inl i), (3, .inl 2), (4, .inl j), (5, .inl n)] [.inl 1] σ rfl ?_
              refine sw_if_eq k_X7_copy rfl (by decide) 97 85 (by decide) rfl (fun c => absurd c (by decide)) (fun _ => ?_)
              refine sw_blk k_X7_copy 3 91 [(7, .inr (.inr 19)), (6, .inr (.inr 17)), (0, .inr (.inr 0)), (1, .inl 1), (2, .inl i), (3, .inl 2), (4, .inl j), (5, .inl n)] [.inl n, .inl j, .inr (.inr 19)] σ rfl ?_
              refine sw_callV k_X7_copy rfl cV_X4_hasItems ml_X7_251 ⟨by decide, by decide⟩ 19 rfl rfl [.inl j, .inl n] [] rfl rfl (Nat.le_of_ble_eq_true rfl) 94 rfl (sp_hasItems2 σ j n (by omega) (by omega) ht0 ht1) (fun r20 σ21 hq22 => ?_)
              obtain ⟨rfl, ⟨p19, rfl⟩ | ⟨p19, rfl⟩⟩ := hq22
              · refine sw_blk k_X7_copy 0 94 [(7, .inr (.inr 19)), (6, .inr (.inr 17)), (0, .inr (.inr 0)), (1, .inl 1), (2, .inl i), (3, .inl 2), (4, .inl j), (5, .inl n)] [.inl 1] σ rfl ?_
                refine sw_if_ne k_X7_copy rfl (by decide) 103 97 (by decide) rfl (fun _ => ?_) (fun c => absurd c (by decide))
                refine sw_blk k_X7_copy 7 118 [(7, .inr (.inr 19)), (6, .inr (.inr 17)), (0, .inr (.inr 0)), (1, .inl 1), (2, .inl i), (3, .inl 2), (4, .inl j), (5, .inl n)] [.inl n, .inl j, .inr (.inr 20), .inl i, .inr (.inr 18)] σ rfl ?_
                refine sw_acopy k_X7_copy rfl (c1 := 18) (c2 := 20) (n1 := 60) (n2 := 60) rfl rfl (by omega) (by omega) (by omega) (by omega) (by omega) (by omega) (by omega) (by omega) 121 rfl ?_
                refine sw_blk k_X7_copy 1 122 [(7, .inr (.inr 19)), (6, .inr (.inr 17)), (0, .inr (.inr 0)), (1, .inl 1), (2, .inl i), (3, .inl 2), (4, .inl j), (5, .inl n)] [.inl 1] (sw_cp σ 18 i 20 j n) rfl ?_
                refine sw_ireturn k_X7_copy rfl rfl ?_
                exact Or.inr (Or.inr (Or.inr ⟨by omega, rfl, rfl⟩))
              · refine sw_blk k_X7_copy 0 94 [(7, .inr (.inr 19)), (6, .inr (.inr 17)), (0, .inr (.inr 0)), (1, .inl 1), (2, .inl i), (3, .inl 2), (4, .inl j), (5, .inl n)] [.inl 0] σ rfl ?_
                refine sw_if_ne k_X7_copy rfl (by decide) 103 97 (by decide) rfl (fun c => absurd (by decide) c) (fun _ => ?_)
                refine sw_blk k_X7_copy 2 99 [(7, .inr (.inr 19)), (6, .inr (.inr 17)), (0, .inr (.inr 0)), (1, .inl 1), (2, .inl i), (3, .inl 2), (4, .inl j), (5, .inl n)] [.inl 2, .inr (.inr 0)] σ rfl ?_
                refine sw_callV k_X7_copy rfl cV_X7_finding ml_X7_225 ⟨by decide, by decide⟩ 0 rfl rfl [.inl 2] [] rfl rfl (Nat.le_of_ble_eq_true rfl) 102 rfl (sp_finding σ 2) (fun r23 σ24 hq25 => ?_)
                obtain ⟨rfl, rfl⟩ := hq25
                refine sw_blk k_X7_copy 0 102 [(7, .inr (.inr 19)), (6, .inr (.inr 17)), (0, .inr (.inr 0)), (1, .inl 1), (2, .inl i), (3, .inl 2), (4, .inl j), (5, .inl n)] [.inl (-10 - 2)] (sw_u σ 0 9 2) rfl ?_
                refine sw_ireturn k_X7_copy rfl rfl ?_
                exact Or.inr (Or.inr (Or.inl ⟨by omega, rfl, rfl⟩))
            · refine sw_blk k_X7_copy 0 82 [(7, .inr (.inr 19)), (6, .inr (.inr 17)), (0, .inr (.inr 0)), (1, .inl 1), (2, .inl i), (3, .inl 2), (4, .inl j), (5, .inl n)] [.inl 0] σ rfl ?_
              refine sw_if_eq k_X7_copy rfl (by decide) 97 85 (by decide) rfl (fun _ => ?_) (fun c => absurd (by decide) c)
              refine sw_blk k_X7_copy 2 99 [(7, .inr (.inr 19)), (6, .inr (.inr 17)), (0, .inr (.inr 0)), (1, .inl 1), (2, .inl i), (3, .inl 2), (4, .inl j), (5, .inl n)] [.inl 2, .inr (.inr 0)] σ rfl ?_
              refine sw_callV k_X7_copy rfl cV_X7_finding ml_X7_225 ⟨by decide, by decide⟩ 0 rfl rfl [.inl 2] [] rfl rfl (Nat.le_of_ble_eq_true rfl) 102 rfl (sp_finding σ 2) (fun r26 σ27 hq28 => ?_)
              obtain ⟨rfl, rfl⟩ := hq28
              refine sw_blk k_X7_copy 0 102 [(7, .inr (.inr 19)), (6, .inr (.inr 17)), (0, .inr (.inr 0)), (1, .inl 1), (2, .inl i), (3, .inl 2), (4, .inl j), (5, .inl n)] [.inl (-10 - 2)] (sw_u σ 0 9 2) rfl ?_
              refine sw_ireturn k_X7_copy rfl rfl ?_
              exact Or.inr (Or.inr (Or.inl ⟨by omega, rfl, rfl⟩))
          · refine sw_blk k_X7_copy 2 70 [(7, .inr (.inr 19)), (6, .inr (.inr 17)), (0, .inr (.inr 0)), (1, .inl 1), (2, .inl i), (3, .inl 2), (4, .inl j), (5, .inl n)] [.inl 4, .inr (.inr 0)] σ rfl ?_
            refine sw_callV k_X7_copy rfl cV_X7_finding ml_X7_225 ⟨by decide, by decide⟩ 0 rfl rfl [.inl 4] [] rfl rfl (Nat.le_of_ble_eq_true rfl) 73 rfl (sp_finding σ 4) (fun r29 σ30 hq31 => ?_)
            obtain ⟨rfl, rfl⟩ := hq31
            refine sw_blk k_X7_copy 0 73 [(7, .inr (.inr 19)), (6, .inr (.inr 17)), (0, .inr (.inr 0)), (1, .inl 1), (2, .inl i), (3, .inl 2), (4, .inl j), (5, .inl n)] [.inl (-10 - 4)] (sw_u σ 0 9 4) rfl ?_
            refine sw_ireturn k_X7_copy rfl rfl ?_
            exact Or.inr (Or.inl ⟨by omega, rfl, rfl⟩)
        · refine sw_blk k_X7_copy 2 51 [(7, .inr (.inr 19)), (6, .inr (.inr 17)), (0, .inr (.inr 0)), (1, .inl 1), (2, .inl i), (3, .inl 2), (4, .inl j), (5, .inl n)] [.inl 1, .inr (.inr 0)] σ rfl ?_
          refine sw_callV k_X7_copy rfl cV_X7_finding ml_X7_225 ⟨by decide, by decide⟩ 0 rfl rfl [.inl 1] [] rfl rfl (Nat.le_of_ble_eq_true rfl) 54 rfl (sp_finding σ 1) (fun r32 σ33 hq34 => ?_)
          obtain ⟨rfl, rfl⟩ := hq34
          refine sw_blk k_X7_copy 0 54 [(7, .inr (.inr 19)), (6, .inr (.inr 17)), (0, .inr (.inr 0)), (1, .inl 1), (2, .inl i), (3, .inl 2), (4, .inl j), (5, .inl n)] [.inl (-10 - 1)] (sw_u σ 0 9 1) rfl ?_
          refine sw_ireturn k_X7_copy rfl rfl ?_
          exact Or.inl ⟨by omega, rfl, rfl⟩
    · exact absurd (by decide) p5
  · exact absurd (by decide) p1
theorem cc_copy13 (σ : sw_S) (hσ : sw_gs σ) (hs0 : 0 ≤ σ 17 3) (hs1 : σ 17 3 ≤ 60) (ht0 : 0 ≤ σ 21 3) (ht1 : σ 21 3 ≤ 60) (i j n : Int) (gi : sw_g i) (gj : sw_g j) (gn : sw_g n) : sw_Con sw_ly sw_rho M_X7_copy [.inr (.inr 0), .inl 1, .inl i, .inl 3, .inl j, .inl n] σ (fun r σ' => ((¬ σ 17 1 = 0 ∨ ¬ σ 21 1 = 0) ∧ r = some (.inl (-10 - 1)) ∧ sw_u σ 0 9 1 = σ') ∨ ((¬ (¬ σ 17 1 = 0 ∨ ¬ σ 21 1 = 0) ∧ ¬ σ 17 2 = σ 21 2) ∧ r = some (.inl (-10 - 4)) ∧ sw_u σ 0 9 4 = σ') ∨ ((¬ (¬ σ 17 1 = 0 ∨ ¬ σ 21 1 = 0) ∧ σ 17 2 = σ 21 2 ∧ ¬ ((0 ≤ i ∧ 0 ≤ n ∧ i ≤ σ 17 3 - n) ∧ (0 ≤ j ∧ 0 ≤ n ∧ j ≤ σ 21 3 - n))) ∧ r = some (.inl (-10 - 2)) ∧ sw_u σ 0 9 2 = σ') ∨ ((¬ (¬ σ 17 1 = 0 ∨ ¬ σ 21 1 = 0) ∧ σ 17 2 = σ 21 2 ∧ ((0 ≤ i ∧ 0 ≤ n ∧ i ≤ σ 17 3 - n) ∧ (0 ≤ j ∧ 0 ≤ n ∧ j ≤ σ 21 3 - n))) ∧ r = some (.inl 1) ∧ sw_cp σ 18 i 22 j n = σ')) := by
  refine sw_con (by decide) (Nat.le_of_ble_eq_true rfl) ?_
  refine sw_blk k_X7_copy 1 1 [(0, .inr (.inr 0)), (1, .inl 1), (2, .inl i), (3, .inl 3), (4, .inl j), (5, .inl n)] [.inl 1] σ rfl ?_
  refine sw_callS k_X7_copy rfl cS_X7_isSheet ml_X7_219 ⟨by decide, by decide⟩ [.inl 1] [] rfl rfl (Nat.le_of_ble_eq_true rfl) 4 rfl (sp_isSheet σ 1 (by decide)) (fun r2 σ3 hq4 => ?_)
  obtain ⟨rfl, ⟨p1, rfl⟩ | ⟨p1, rfl⟩⟩ := hq4
  · refine sw_blk k_X7_copy 0 4 [(0, .inr (.inr 0)), (1, .inl 1), (2, .inl i), (3, .inl 3), (4, .inl j), (5, .inl n)] [.inl 1] σ rfl ?_
    refine sw_if_eq k_X7_copy rfl (by decide) 14 7 (by decide) rfl (fun c => absurd c (by decide)) (fun _ => ?_)
    refine sw_blk k_X7_copy 1 8 [(0, .inr (.inr 0)), (1, .inl 1), (2, .inl i), (3, .inl 3), (4, .inl j), (5, .inl n)] [.inl 3] σ rfl ?_
    refine sw_callS k_X7_copy rfl cS_X7_isSheet ml_X7_219 ⟨by decide, by decide⟩ [.inl 3] [] rfl rfl (Nat.le_of_ble_eq_true rfl) 11 rfl (sp_isSheet σ 3 (by decide)) (fun r6 σ7 hq8 => ?_)
    obtain ⟨rfl, ⟨p5, rfl⟩ | ⟨p5, rfl⟩⟩ := hq8
    · refine sw_blk k_X7_copy 0 11 [(0, .inr (.inr 0)), (1, .inl 1), (2, .inl i), (3, .inl 3), (4, .inl j), (5, .inl n)] [.inl 1] σ rfl ?_
      refine sw_if_ne k_X7_copy rfl (by decide) 17 14 (by decide) rfl (fun _ => ?_) (fun c => absurd c (by decide))
      refine sw_blk k_X7_copy 3 22 [(0, .inr (.inr 0)), (1, .inl 1), (2, .inl i), (3, .inl 3), (4, .inl j), (5, .inl n)] [.inl 1, .inr (.inr 14)] σ rfl ?_
      refine sw_aald k_X7_copy rfl (i := 14) (n := 4) (r := 17) rfl (by decide) (by decide) (by decide) rfl 23 rfl ?_
      refine sw_blk k_X7_copy 4 30 [(6, .inr (.inr 17)), (0, .inr (.inr 0)), (1, .inl 1), (2, .inl i), (3, .inl 3), (4, .inl j), (5, .inl n)] [.inl 3, .inr (.inr 14)] σ rfl ?_
      refine sw_aald k_X7_copy rfl (i := 14) (n := 4) (r := 21) rfl (by decide) (by decide) (by decide) rfl 31 rfl ?_
      refine sw_blk k_X7_copy 3 38 [(7, .inr (.inr 21)), (6, .inr (.inr 17)), (0, .inr (.inr 0)), (1, .inl 1), (2, .inl i), (3, .inl 3), (4, .inl j), (5, .inl n)] [.inl (σ 17 1)] σ rfl ?_
      refine sw_if_ne k_X7_copy rfl (hσ 17 _) 49 41 (by decide) rfl (fun c9 => ?_) (fun c9 => ?_)
      · refine sw_blk k_X7_copy 2 51 [(7, .inr (.inr 21)), (6, .inr (.inr 17)), (0, .inr (.inr 0)), (1, .inl 1), (2, .inl i), (3, .inl 3), (4, .inl j), (5, .inl n)] [.inl 1, .inr (.inr 0)] σ rfl ?_
        refine sw_callV k_X7_copy rfl cV_X7_finding ml_X7_225 ⟨by decide, by decide⟩ 0 rfl rfl [.inl 1] [] rfl rfl (Nat.le_of_ble_eq_true rfl) 54 rfl (sp_finding σ 1) (fun r10 σ11 hq12 => ?_)
        obtain ⟨rfl, rfl⟩ := hq12
        refine sw_blk k_X7_copy 0 54 [(7, .inr (.inr 21)), (6, .inr (.inr 17)), (0, .inr (.inr 0)), (1, .inl 1), (2, .inl i), (3, .inl 3), (4, .inl j), (5, .inl n)] [.inl (-10 - 1)] (sw_u σ 0 9 1) rfl ?_
        refine sw_ireturn k_X7_copy rfl rfl ?_
        exact Or.inl ⟨by omega, rfl, rfl⟩
      · refine sw_blk k_X7_copy 2 46 [(7, .inr (.inr 21)), (6, .inr (.inr 17)), (0, .inr (.inr 0)), (1, .inl 1), (2, .inl i), (3, .inl 3), (4, .inl j), (5, .inl n)] [.inl (σ 21 1)] σ rfl ?_
        refine sw_if_eq k_X7_copy rfl (hσ 21 _) 55 49 (by decide) rfl (fun c13 => ?_) (fun c13 => ?_)
        · refine sw_blk k_X7_copy 4 65 [(7, .inr (.inr 21)), (6, .inr (.inr 17)), (0, .inr (.inr 0)), (1, .inl 1), (2, .inl i), (3, .inl 3), (4, .inl j), (5, .inl n)] [.inl (σ 21 2), .inl (σ 17 2)] σ rfl ?_
          refine sw_icmp_eq k_X7_copy rfl (hσ 17 _) (hσ 21 _) 74 68 (by decide) rfl (fun c14 => ?_) (fun c14 => ?_)
          · refine sw_blk k_X7_copy 3 79 [(7, .inr (.inr 21)), (6, .inr (.inr 17)), (0, .inr (.inr 0)), (1, .inl 1), (2, .inl i), (3, .inl 3), (4, .inl j), (5, .inl n)] [.inl n, .inl i, .inr (.inr 17)] σ rfl ?_
            refine sw_callV k_X7_copy rfl cV_X4_hasItems ml_X7_251 ⟨by decide, by decide⟩ 17 rfl rfl [.inl i, .inl n] [] rfl rfl (Nat.le_of_ble_eq_true rfl) 82 rfl (sp_hasItems1 σ i n (by omega) (by omega) hs0 hs1) (fun r16 σ17 hq18 => ?_)
            obtain ⟨rfl, ⟨p15, rfl⟩ | ⟨p15, rfl⟩⟩ := hq18
            · refine sw_blk k_X7_copy 0 82 [(7, .inr (.inr 21)), (6, .inr (.inr 17)), (0, .inr (.inr 0)), (1, .inl 1), (2, .inl i), (3, .inl 3), (4, .inl j), (5, .inl n)] [.inl 1] σ rfl ?_
              refine sw_if_eq k_X7_copy rfl (by decide) 97 85 (by decide) rfl (fun c => absurd c (by decide)) (fun _ => ?_)
              refine sw_blk k_X7_copy 3 91 [(7, .inr (.inr 21)), (6, .inr (.inr 17)), (0, .inr (.inr 0)), (1, .inl 1), (2, .inl i), (3, .inl 3), (4, .inl j), (5, .inl n)] [.inl n, .inl j, .inr (.inr 21)] σ rfl ?_
              refine sw_callV k_X7_copy rfl cV_X4_hasItems ml_X7_251 ⟨by decide, by decide⟩ 21 rfl rfl [.inl j, .inl n] [] rfl rfl (Nat.le_of_ble_eq_true rfl) 94 rfl (sp_hasItems3 σ j n (by omega) (by omega) ht0 ht1) (fun r20 σ21 hq22 => ?_)
              obtain ⟨rfl, ⟨p19, rfl⟩ | ⟨p19, rfl⟩⟩ := hq22
              · refine sw_blk k_X7_copy 0 94 [(7, .inr (.inr 21)), (6, .inr (.inr 17)), (0, .inr (.inr 0)), (1, .inl 1), (2, .inl i), (3, .inl 3), (4, .inl j), (5, .inl n)] [.inl 1] σ rfl ?_
                refine sw_if_ne k_X7_copy rfl (by decide) 103 97 (by decide) rfl (fun _ => ?_) (fun c => absurd c (by decide))
                refine sw_blk k_X7_copy 7 118 [(7, .inr (.inr 21)), (6, .inr (.inr 17)), (0, .inr (.inr 0)), (1, .inl 1), (2, .inl i), (3, .inl 3), (4, .inl j), (5, .inl n)] [.inl n, .inl j, .inr (.inr 22), .inl i, .inr (.inr 18)] σ rfl ?_
                refine sw_acopy k_X7_copy rfl (c1 := 18) (c2 := 22) (n1 := 60) (n2 := 60) rfl rfl (by omega) (by omega) (by omega) (by omega) (by omega) (by omega) (by omega) (by omega) 121 rfl ?_
                refine sw_blk k_X7_copy 1 122 [(7, .inr (.inr 21)), (6, .inr (.inr 17)), (0, .inr (.inr 0)), (1, .inl 1), (2, .inl i), (3, .inl 3), (4, .inl j), (5, .inl n)] [.inl 1] (sw_cp σ 18 i 22 j n) rfl ?_
                refine sw_ireturn k_X7_copy rfl rfl ?_
                exact Or.inr (Or.inr (Or.inr ⟨by omega, rfl, rfl⟩))
              · refine sw_blk k_X7_copy 0 94 [(7, .inr (.inr 21)), (6, .inr (.inr 17)), (0, .inr (.inr 0)), (1, .inl 1), (2, .inl i), (3, .inl 3), (4, .inl j), (5, .inl n)] [.inl 0] σ rfl ?_
                refine sw_if_ne k_X7_copy rfl (by decide) 103 97 (by decide) rfl (fun c => absurd (by decide) c) (fun _ => ?_)
                refine sw_blk k_X7_copy 2 99 [(7, .inr (.inr 21)), (6, .inr (.inr 17)), (0, .inr (.inr 0)), (1, .inl 1), (2, .inl i), (3, .inl 3), (4, .inl j), (5, .inl n)] [.inl 2, .inr (.inr 0)] σ rfl ?_
                refine sw_callV k_X7_copy rfl cV_X7_finding ml_X7_225 ⟨by decide, by decide⟩ 0 rfl rfl [.inl 2] [] rfl rfl (Nat.le_of_ble_eq_true rfl) 102 rfl (sp_finding σ 2) (fun r23 σ24 hq25 => ?_)
                obtain ⟨rfl, rfl⟩ := hq25
                refine sw_blk k_X7_copy 0 102 [(7, .inr (.inr 21)), (6, .inr (.inr 17)), (0, .inr (.inr 0)), (1, .inl 1), (2, .inl i), (3, .inl 3), (4, .inl j), (5, .inl n)] [.inl (-10 - 2)] (sw_u σ 0 9 2) rfl ?_
                refine sw_ireturn k_X7_copy rfl rfl ?_
                exact Or.inr (Or.inr (Or.inl ⟨by omega, rfl, rfl⟩))
            · refine sw_blk k_X7_copy 0 82 [(7, .inr (.inr 21)), (6, .inr (.inr 17)), (0, .inr (.inr 0)), (1, .inl 1), (2, .inl i), (3, .inl 3), (4, .inl j), (5, .inl n)] [.inl 0] σ rfl ?_
              refine sw_if_eq k_X7_copy rfl (by decide) 97 85 (by decide) rfl (fun _ => ?_) (fun c => absurd (by decide) c)
              refine sw_blk k_X7_copy 2 99 [(7, .inr (.inr 21)), (6, .inr (.inr 17)), (0, .inr (.inr 0)), (1, .inl 1), (2, .inl i), (3, .inl 3), (4, .inl j), (5, .inl n)] [.inl 2, .inr (.inr 0)] σ rfl ?_
              refine sw_callV k_X7_copy rfl cV_X7_finding ml_X7_225 ⟨by decide, by decide⟩ 0 rfl rfl [.inl 2] [] rfl rfl (Nat.le_of_ble_eq_true rfl) 102 rfl (sp_finding σ 2) (fun r26 σ27 hq28 => ?_)
              obtain ⟨rfl, rfl⟩ := hq28
              refine sw_blk k_X7_copy 0 102 [(7, .inr (.inr 21)), (6, .inr (.inr 17)), (0, .inr (.inr 0)), (1, .inl 1), (2, .inl i), (3, .inl 3), (4, .inl j), (5, .inl n)] [.inl (-10 - 2)] (sw_u σ 0 9 2) rfl ?_
              refine sw_ireturn k_X7_copy rfl rfl ?_
              exact Or.inr (Or.inr (Or.inl ⟨by omega, rfl, rfl⟩))
          · refine sw_blk k_X7_copy 2 70 [(7, .inr (.inr 21)), (6, .inr (.inr 17)), (0, .inr (.inr 0)), (1, .inl 1), (2, .inl i), (3, .inl 3), (4, .inl j), (5, .inl n)] [.inl 4, .inr (.inr 0)] σ rfl ?_
            refine sw_callV k_X7_copy rfl cV_X7_finding ml_X7_225 ⟨by decide, by decide⟩ 0 rfl rfl [.inl 4] [] rfl rfl (Nat.le_of_ble_eq_true rfl) 73 rfl (sp_finding σ 4) (fun r29 σ30 hq31 => ?_)
            obtain ⟨rfl, rfl⟩ := hq31
            refine sw_blk k_X7_copy 0 73 [(7, .inr (.inr 21)), (6, .inr (.inr 17)), (0, .inr (.inr 0)), (1, .inl 1), (2, .inl i), (3, .inl 3), (4, .inl j), (5, .inl n)] [.inl (-10 - 4)] (sw_u σ 0 9 4) rfl ?_
            refine sw_ireturn k_X7_copy rfl rfl ?_
            exact Or.inr (Or.inl ⟨by omega, rfl, rfl⟩)
        · refine sw_blk k_X7_copy 2 51 [(7, .inr (.inr 21)), (6, .inr (.inr 17)), (0, .inr (.inr 0)), (1, .inl 1), (2, .inl i), (3, .inl 3), (4, .inl j), (5, .inl n)] [.inl 1, .inr (.inr 0)] σ rfl ?_
          refine sw_callV k_X7_copy rfl cV_X7_finding ml_X7_225 ⟨by decide, by decide⟩ 0 rfl rfl [.inl 1] [] rfl rfl (Nat.le_of_ble_eq_true rfl) 54 rfl (sp_finding σ 1) (fun r32 σ33 hq34 => ?_)
          obtain ⟨rfl, rfl⟩ := hq34
          refine sw_blk k_X7_copy 0 54 [(7, .inr (.inr 21)), (6, .inr (.inr 17)), (0, .inr (.inr 0)), (1, .inl 1), (2, .inl i), (3, .inl 3), (4, .inl j), (5, .inl n)] [.inl (-10 - 1)] (sw_u σ 0 9 1) rfl ?_
          refine sw_ireturn k_X7_copy rfl rfl ?_
          exact Or.inl ⟨by omega, rfl, rfl⟩
    · exact absurd (by decide) p5
  · exact absurd (by decide) p1
theorem cc_copy20 (σ : sw_S) (hσ : sw_gs σ) (hs0 : 0 ≤ σ 19 3) (hs1 : σ 19 3 ≤ 60) (ht0 : 0 ≤ σ 15 3) (ht1 : σ 15 3 ≤ 60) (i j n : Int) (gi : sw_g i) (gj : sw_g j) (gn : sw_g n) : sw_Con sw_ly sw_rho M_X7_copy [.inr (.inr 0), .inl 2, .inl i, .inl 0, .inl j, .inl n] σ (fun r σ' => ((¬ σ 19 1 = 0 ∨ ¬ σ 15 1 = 0) ∧ r = some (.inl (-10 - 1)) ∧ sw_u σ 0 9 1 = σ') ∨ ((¬ (¬ σ 19 1 = 0 ∨ ¬ σ 15 1 = 0) ∧ ¬ σ 19 2 = σ 15 2) ∧ r = some (.inl (-10 - 4)) ∧ sw_u σ 0 9 4 = σ') ∨ ((¬ (¬ σ 19 1 = 0 ∨ ¬ σ 15 1 = 0) ∧ σ 19 2 = σ 15 2 ∧ ¬ ((0 ≤ i ∧ 0 ≤ n ∧ i ≤ σ 19 3 - n) ∧ (0 ≤ j ∧ 0 ≤ n ∧ j ≤ σ 15 3 - n))) ∧ r = some (.inl (-10 - 2)) ∧ sw_u σ 0 9 2 = σ') ∨ ((¬ (¬ σ 19 1 = 0 ∨ ¬ σ 15 1 = 0) ∧ σ 19 2 = σ 15 2 ∧ ((0 ≤ i ∧ 0 ≤ n ∧ i ≤ σ 19 3 - n) ∧ (0 ≤ j ∧ 0 ≤ n ∧ j ≤ σ 15 3 - n))) ∧ r = some (.inl 1) ∧ sw_cp σ 20 i 16 j n = σ')) := by
  refine sw_con (by decide) (Nat.le_of_ble_eq_true rfl) ?_
  refine sw_blk k_X7_copy 1 1 [(0, .inr (.inr 0)), (1, .inl 2), (2, .inl i), (3, .inl 0), (4, .inl j), (5, .inl n)] [.inl 2] σ rfl ?_
  refine sw_callS k_X7_copy rfl cS_X7_isSheet ml_X7_219 ⟨by decide, by decide⟩ [.inl 2] [] rfl rfl (Nat.le_of_ble_eq_true rfl) 4 rfl (sp_isSheet σ 2 (by decide)) (fun r2 σ3 hq4 => ?_)
  obtain ⟨rfl, ⟨p1, rfl⟩ | ⟨p1, rfl⟩⟩ := hq4
  · refine sw_blk k_X7_copy 0 4 [(0, .inr (.inr 0)), (1, .inl 2), (2, .inl i), (3, .inl 0), (4, .inl j), (5, .inl n)] [.inl 1] σ rfl ?_
    refine sw_if_eq k_X7_copy rfl (by decide) 14 7 (by decide) rfl (fun c => absurd c (by decide)) (fun _ => ?_)
    refine sw_blk k_X7_copy 1 8 [(0, .inr (.inr 0)), (1, .inl 2), (2, .inl i), (3, .inl 0), (4, .inl j), (5, .inl n)] [.inl 0] σ rfl ?_
    refine sw_callS k_X7_copy rfl cS_X7_isSheet ml_X7_219 ⟨by decide, by decide⟩ [.inl 0] [] rfl rfl (Nat.le_of_ble_eq_true rfl) 11 rfl (sp_isSheet σ 0 (by decide)) (fun r6 σ7 hq8 => ?_)
    obtain ⟨rfl, ⟨p5, rfl⟩ | ⟨p5, rfl⟩⟩ := hq8
    · refine sw_blk k_X7_copy 0 11 [(0, .inr (.inr 0)), (1, .inl 2), (2, .inl i), (3, .inl 0), (4, .inl j), (5, .inl n)] [.inl 1] σ rfl ?_
      refine sw_if_ne k_X7_copy rfl (by decide) 17 14 (by decide) rfl (fun _ => ?_) (fun c => absurd c (by decide))
      refine sw_blk k_X7_copy 3 22 [(0, .inr (.inr 0)), (1, .inl 2), (2, .inl i), (3, .inl 0), (4, .inl j), (5, .inl n)] [.inl 2, .inr (.inr 14)] σ rfl ?_
      refine sw_aald k_X7_copy rfl (i := 14) (n := 4) (r := 19) rfl (by decide) (by decide) (by decide) rfl 23 rfl ?_
      refine sw_blk k_X7_copy 4 30 [(6, .inr (.inr 19)), (0, .inr (.inr 0)), (1, .inl 2), (2, .inl i), (3, .inl 0), (4, .inl j), (5, .inl n)] [.inl 0, .inr (.inr 14)] σ rfl ?_
      refine sw_aald k_X7_copy rfl (i := 14) (n := 4) (r := 15) rfl (by decide) (by decide) (by decide) rfl 31 rfl ?_
      refine sw_blk k_X7_copy 3 38 [(7, .inr (.inr 15)), (6, .inr (.inr 19)), (0, .inr (.inr 0)), (1, .inl 2), (2, .inl i), (3, .inl 0), (4, .inl j), (5, .inl n)] [.inl (σ 19 1)] σ rfl ?_
      refine sw_if_ne k_X7_copy rfl (hσ 19 _) 49 41 (by decide) rfl (fun c9 => ?_) (fun c9 => ?_)
      · refine sw_blk k_X7_copy 2 51 [(7, .inr (.inr 15)), (6, .inr (.inr 19)), (0, .inr (.inr 0)), (1, .inl 2), (2, .inl i), (3, .inl 0), (4, .inl j), (5, .inl n)] [.inl 1, .inr (.inr 0)] σ rfl ?_
        refine sw_callV k_X7_copy rfl cV_X7_finding ml_X7_225 ⟨by decide, by decide⟩ 0 rfl rfl [.inl 1] [] rfl rfl (Nat.le_of_ble_eq_true rfl) 54 rfl (sp_finding σ 1) (fun r10 σ11 hq12 => ?_)
        obtain ⟨rfl, rfl⟩ := hq12
        refine sw_blk k_X7_copy 0 54 [(7, .inr (.inr 15)), (6, .inr (.inr 19)), (0, .inr (.inr 0)), (1, .inl 2), (2, .inl i), (3, .inl 0), (4, .inl j), (5, .inl n)] [.inl (-10 - 1)] (sw_u σ 0 9 1) rfl ?_
        refine sw_ireturn k_X7_copy rfl rfl ?_
        exact Or.inl ⟨by omega, rfl, rfl⟩
      · refine sw_blk k_X7_copy 2 46 [(7, .inr (.inr 15)), (6, .inr (.inr 19)), (0, .inr (.inr 0)), (1, .inl 2), (2, .inl i), (3, .inl 0), (4, .inl j), (5, .inl n)] [.inl (σ 15 1)] σ rfl ?_
        refine sw_if_eq k_X7_copy rfl (hσ 15 _) 55 49 (by decide) rfl (fun c13 => ?_) (fun c13 => ?_)
        · refine sw_blk k_X7_copy 4 65 [(7, .inr (.inr 15)), (6, .inr (.inr 19)), (0, .inr (.inr 0)), (1, .inl 2), (2, .inl i), (3, .inl 0), (4, .inl j), (5, .inl n)] [.inl (σ 15 2), .inl (σ 19 2)] σ rfl ?_
          refine sw_icmp_eq k_X7_copy rfl (hσ 19 _) (hσ 15 _) 74 68 (by decide) rfl (fun c14 => ?_) (fun c14 => ?_)
          · refine sw_blk k_X7_copy 3 79 [(7, .inr (.inr 15)), (6, .inr (.inr 19)), (0, .inr (.inr 0)), (1, .inl 2), (2, .inl i), (3, .inl 0), (4, .inl j), (5, .inl n)] [.inl n, .inl i, .inr (.inr 19)] σ rfl ?_
            refine sw_callV k_X7_copy rfl cV_X4_hasItems ml_X7_251 ⟨by decide, by decide⟩ 19 rfl rfl [.inl i, .inl n] [] rfl rfl (Nat.le_of_ble_eq_true rfl) 82 rfl (sp_hasItems2 σ i n (by omega) (by omega) hs0 hs1) (fun r16 σ17 hq18 => ?_)
            obtain ⟨rfl, ⟨p15, rfl⟩ | ⟨p15, rfl⟩⟩ := hq18
            · refine sw_blk k_X7_copy 0 82 [(7, .inr (.inr 15)), (6, .inr (.inr 19)), (0, .inr (.inr 0)), (1, .inl 2), (2, .inl i), (3, .inl 0), (4, .inl j), (5, .inl n)] [.inl 1] σ rfl ?_
              refine sw_if_eq k_X7_copy rfl (by decide) 97 85 (by decide) rfl (fun c => absurd c (by decide)) (fun _ => ?_)
              refine sw_blk k_X7_copy 3 91 [(7, .inr (.inr 15)), (6, .inr (.inr 19)), (0, .inr (.inr 0)), (1, .inl 2), (2, .inl i), (3, .inl 0), (4, .inl j), (5, .inl n)] [.inl n, .inl j, .inr (.inr 15)] σ rfl ?_
              refine sw_callV k_X7_copy rfl cV_X4_hasItems ml_X7_251 ⟨by decide, by decide⟩ 15 rfl rfl [.inl j, .inl n] [] rfl rfl (Nat.le_of_ble_eq_true rfl) 94 rfl (sp_hasItems0 σ j n (by omega) (by omega) ht0 ht1) (fun r20 σ21 hq22 => ?_)
              obtain ⟨rfl, ⟨p19, rfl⟩ | ⟨p19, rfl⟩⟩ := hq22
              · refine sw_blk k_X7_copy 0 94 [(7, .inr (.inr 15)), (6, .inr (.inr 19)), (0, .inr (.inr 0)), (1, .inl 2), (2, .inl i), (3, .inl 0), (4, .inl j), (5, .inl n)] [.inl 1] σ rfl ?_
                refine sw_if_ne k_X7_copy rfl (by decide) 103 97 (by decide) rfl (fun _ => ?_) (fun c => absurd c (by decide))
                refine sw_blk k_X7_copy 7 118 [(7, .inr (.inr 15)), (6, .inr (.inr 19)), (0, .inr (.inr 0)), (1, .inl 2), (2, .inl i), (3, .inl 0), (4, .inl j), (5, .inl n)] [.inl n, .inl j, .inr (.inr 16), .inl i, .inr (.inr 20)] σ rfl ?_
                refine sw_acopy k_X7_copy rfl (c1 := 20) (c2 := 16) (n1 := 60) (n2 := 60) rfl rfl (by omega) (by omega) (by omega) (by omega) (by omega) (by omega) (by omega) (by omega) 121 rfl ?_
                refine sw_blk k_X7_copy 1 122 [(7, .inr (.inr 15)), (6, .inr (.inr 19)), (0, .inr (.inr 0)), (1, .inl 2), (2, .inl i), (3, .inl 0), (4, .inl j), (5, .inl n)] [.inl 1] (sw_cp σ 20 i 16 j n) rfl ?_
                refine sw_ireturn k_X7_copy rfl rfl ?_
                exact Or.inr (Or.inr (Or.inr ⟨by omega, rfl, rfl⟩))
              · refine sw_blk k_X7_copy 0 94 [(7, .inr (.inr 15)), (6, .inr (.inr 19)), (0, .inr (.inr 0)), (1, .inl 2), (2, .inl i), (3, .inl 0), (4, .inl j), (5, .inl n)] [.inl 0] σ rfl ?_
                refine sw_if_ne k_X7_copy rfl (by decide) 103 97 (by decide) rfl (fun c => absurd (by decide) c) (fun _ => ?_)
                refine sw_blk k_X7_copy 2 99 [(7, .inr (.inr 15)), (6, .inr (.inr 19)), (0, .inr (.inr 0)), (1, .inl 2), (2, .inl i), (3, .inl 0), (4, .inl j), (5, .inl n)] [.inl 2, .inr (.inr 0)] σ rfl ?_
                refine sw_callV k_X7_copy rfl cV_X7_finding ml_X7_225 ⟨by decide, by decide⟩ 0 rfl rfl [.inl 2] [] rfl rfl (Nat.le_of_ble_eq_true rfl) 102 rfl (sp_finding σ 2) (fun r23 σ24 hq25 => ?_)
                obtain ⟨rfl, rfl⟩ := hq25
                refine sw_blk k_X7_copy 0 102 [(7, .inr (.inr 15)), (6, .inr (.inr 19)), (0, .inr (.inr 0)), (1, .inl 2), (2, .inl i), (3, .inl 0), (4, .inl j), (5, .inl n)] [.inl (-10 - 2)] (sw_u σ 0 9 2) rfl ?_
                refine sw_ireturn k_X7_copy rfl rfl ?_
                exact Or.inr (Or.inr (Or.inl ⟨by omega, rfl, rfl⟩))
            · refine sw_blk k_X7_copy 0 82 [(7, .inr (.inr 15)), (6, .inr (.inr 19)), (0, .inr (.inr 0)), (1, .inl 2), (2, .inl i), (3, .inl 0), (4, .inl j), (5, .inl n)] [.inl 0] σ rfl ?_
              refine sw_if_eq k_X7_copy rfl (by decide) 97 85 (by decide) rfl (fun _ => ?_) (fun c => absurd (by decide) c)
              refine sw_blk k_X7_copy 2 99 [(7, .inr (.inr 15)), (6, .inr (.inr 19)), (0, .inr (.inr 0)), (1, .inl 2), (2, .inl i), (3, .inl 0), (4, .inl j), (5, .inl n)] [.inl 2, .inr (.inr 0)] σ rfl ?_
              refine sw_callV k_X7_copy rfl cV_X7_finding ml_X7_225 ⟨by decide, by decide⟩ 0 rfl rfl [.inl 2] [] rfl rfl (Nat.le_of_ble_eq_true rfl) 102 rfl (sp_finding σ 2) (fun r26 σ27 hq28 => ?_)
              obtain ⟨rfl, rfl⟩ := hq28
              refine sw_blk k_X7_copy 0 102 [(7, .inr (.inr 15)), (6, .inr (.inr 19)), (0, .inr (.inr 0)), (1, .inl 2), (2, .inl i), (3, .inl 0), (4, .inl j), (5, .inl n)] [.inl (-10 - 2)] (sw_u σ 0 9 2) rfl ?_
              refine sw_ireturn k_X7_copy rfl rfl ?_
              exact Or.inr (Or.inr (Or.inl ⟨by omega, rfl, rfl⟩))
          · refine sw_blk k_X7_copy 2 70 [(7, .inr (.inr 15)), (6, .inr (.inr 19)), (0, .inr (.inr 0)), (1, .inl 2), (2, .inl i), (3, .inl 0), (4, .inl j), (5, .inl n)] [.inl 4, .inr (.inr 0)] σ rfl ?_
            refine sw_callV k_X7_copy rfl cV_X7_finding ml_X7_225 ⟨by decide, by decide⟩ 0 rfl rfl [.inl 4] [] rfl rfl (Nat.le_of_ble_eq_true rfl) 73 rfl (sp_finding σ 4) (fun r29 σ30 hq31 => ?_)
            obtain ⟨rfl, rfl⟩ := hq31
            refine sw_blk k_X7_copy 0 73 [(7, .inr (.inr 15)), (6, .inr (.inr 19)), (0, .inr (.inr 0)), (1, .inl 2), (2, .inl i), (3, .inl 0), (4, .inl j), (5, .inl n)] [.inl (-10 - 4)] (sw_u σ 0 9 4) rfl ?_
            refine sw_ireturn k_X7_copy rfl rfl ?_
            exact Or.inr (Or.inl ⟨by omega, rfl, rfl⟩)
        · refine sw_blk k_X7_copy 2 51 [(7, .inr (.inr 15)), (6, .inr (.inr 19)), (0, .inr (.inr 0)), (1, .inl 2), (2, .inl i), (3, .inl 0), (4, .inl j), (5, .inl n)] [.inl 1, .inr (.inr 0)] σ rfl ?_
          refine sw_callV k_X7_copy rfl cV_X7_finding ml_X7_225 ⟨by decide, by decide⟩ 0 rfl rfl [.inl 1] [] rfl rfl (Nat.le_of_ble_eq_true rfl) 54 rfl (sp_finding σ 1) (fun r32 σ33 hq34 => ?_)
          obtain ⟨rfl, rfl⟩ := hq34
          refine sw_blk k_X7_copy 0 54 [(7, .inr (.inr 15)), (6, .inr (.inr 19)), (0, .inr (.inr 0)), (1, .inl 2), (2, .inl i), (3, .inl 0), (4, .inl j), (5, .inl n)] [.inl (-10 - 1)] (sw_u σ 0 9 1) rfl ?_
          refine sw_ireturn k_X7_copy rfl rfl ?_
          exact Or.inl ⟨by omega, rfl, rfl⟩
    · exact absurd (by decide) p5
  · exact absurd (by decide) p1
theorem cc_copy21 (σ : sw_S) (hσ : sw_gs σ) (hs0 : 0 ≤ σ 19 3) (hs1 : σ 19 3 ≤ 60) (ht0 : 0 ≤ σ 17 3) (ht1 : σ 17 3 ≤ 60) (i j n : Int) (gi : sw_g i) (gj : sw_g j) (gn : sw_g n) : sw_Con sw_ly sw_rho M_X7_copy [.inr (.inr 0), .inl 2, .inl i, .inl 1, .inl j, .inl n] σ (fun r σ' => ((¬ σ 19 1 = 0 ∨ ¬ σ 17 1 = 0) ∧ r = some (.inl (-10 - 1)) ∧ sw_u σ 0 9 1 = σ') ∨ ((¬ (¬ σ 19 1 = 0 ∨ ¬ σ 17 1 = 0) ∧ ¬ σ 19 2 = σ 17 2) ∧ r = some (.inl (-10 - 4)) ∧ sw_u σ 0 9 4 = σ') ∨ ((¬ (¬ σ 19 1 = 0 ∨ ¬ σ 17 1 = 0) ∧ σ 19 2 = σ 17 2 ∧ ¬ ((0 ≤ i ∧ 0 ≤ n ∧ i ≤ σ 19 3 - n) ∧ (0 ≤ j ∧ 0 ≤ n ∧ j ≤ σ 17 3 - n))) ∧ r = some (.inl (-10 - 2)) ∧ sw_u σ 0 9 2 = σ') ∨ ((¬ (¬ σ 19 1 = 0 ∨ ¬ σ 17 1 = 0) ∧ σ 19 2 = σ 17 2 ∧ ((0 ≤ i ∧ 0 ≤ n ∧ i ≤ σ 19 3 - n) ∧ (0 ≤ j ∧ 0 ≤ n ∧ j ≤ σ 17 3 - n))) ∧ r = some (.inl 1) ∧ sw_cp σ 20 i 18 j n = σ')) := by
  refine sw_con (by decide) (Nat.le_of_ble_eq_true rfl) ?_
  refine sw_blk k_X7_copy 1 1 [(0, .inr (.inr 0)), (1, .inl 2), (2, .inl i), (3, .inl 1), (4, .inl j), (5, .inl n)] [.inl 2] σ rfl ?_
  refine sw_callS k_X7_copy rfl cS_X7_isSheet ml_X7_219 ⟨by decide, by decide⟩ [.inl 2] [] rfl rfl (Nat.le_of_ble_eq_true rfl) 4 rfl (sp_isSheet σ 2 (by decide)) (fun r2 σ3 hq4 => ?_)
  obtain ⟨rfl, ⟨p1, rfl⟩ | ⟨p1, rfl⟩⟩ := hq4
  · refine sw_blk k_X7_copy 0 4 [(0, .inr (.inr 0)), (1, .inl 2), (2, .inl i), (3, .inl 1), (4, .inl j), (5, .inl n)] [.inl 1] σ rfl ?_
    refine sw_if_eq k_X7_copy rfl (by decide) 14 7 (by decide) rfl (fun c => absurd c (by decide)) (fun _ => ?_)
    refine sw_blk k_X7_copy 1 8 [(0, .inr (.inr 0)), (1, .inl 2), (2, .inl i), (3, .inl 1), (4, .inl j), (5, .inl n)] [.inl 1] σ rfl ?_
    refine sw_callS k_X7_copy rfl cS_X7_isSheet ml_X7_219 ⟨by decide, by decide⟩ [.inl 1] [] rfl rfl (Nat.le_of_ble_eq_true rfl) 11 rfl (sp_isSheet σ 1 (by decide)) (fun r6 σ7 hq8 => ?_)
    obtain ⟨rfl, ⟨p5, rfl⟩ | ⟨p5, rfl⟩⟩ := hq8
    · refine sw_blk k_X7_copy 0 11 [(0, .inr (.inr 0)), (1, .inl 2), (2, .inl i), (3, .inl 1), (4, .inl j), (5, .inl n)] [.inl 1] σ rfl ?_
      refine sw_if_ne k_X7_copy rfl (by decide) 17 14 (by decide) rfl (fun _ => ?_) (fun c => absurd c (by decide))
      refine sw_blk k_X7_copy 3 22 [(0, .inr (.inr 0)), (1, .inl 2), (2, .inl i), (3, .inl 1), (4, .inl j), (5, .inl n)] [.inl 2, .inr (.inr 14)] σ rfl ?_
      refine sw_aald k_X7_copy rfl (i := 14) (n := 4) (r := 19) rfl (by decide) (by decide) (by decide) rfl 23 rfl ?_
      refine sw_blk k_X7_copy 4 30 [(6, .inr (.inr 19)), (0, .inr (.inr 0)), (1, .inl 2), (2, .inl i), (3, .inl 1), (4, .inl j), (5, .inl n)] [.inl 1, .inr (.inr 14)] σ rfl ?_
      refine sw_aald k_X7_copy rfl (i := 14) (n := 4) (r := 17) rfl (by decide) (by decide) (by decide) rfl 31 rfl ?_
      refine sw_blk k_X7_copy 3 38 [(7, .inr (.inr 17)), (6, .inr (.inr 19)), (0, .inr (.inr 0)), (1, .inl 2), (2, .inl i), (3, .inl 1), (4, .inl j), (5, .inl n)] [.inl (σ 19 1)] σ rfl ?_
      refine sw_if_ne k_X7_copy rfl (hσ 19 _) 49 41 (by decide) rfl (fun c9 => ?_) (fun c9 => ?_)
      · refine sw_blk k_X7_copy 2 51 [(7, .inr (.inr 17)), (6, .inr (.inr 19)), (0, .inr (.inr 0)), (1, .inl 2), (2, .inl i), (3, .inl 1), (4, .inl j), (5, .inl n)] [.inl 1, .inr (.inr 0)] σ rfl ?_
        refine sw_callV k_X7_copy rfl cV_X7_finding ml_X7_225 ⟨by decide, by decide⟩ 0 rfl rfl [.inl 1] [] rfl rfl (Nat.le_of_ble_eq_true rfl) 54 rfl (sp_finding σ 1) (fun r10 σ11 hq12 => ?_)
        obtain ⟨rfl, rfl⟩ := hq12
        refine sw_blk k_X7_copy 0 54 [(7, .inr (.inr 17)), (6, .inr (.inr 19)), (0, .inr (.inr 0)), (1, .inl 2), (2, .inl i), (3, .inl 1), (4, .inl j), (5, .inl n)] [.inl (-10 - 1)] (sw_u σ 0 9 1) rfl ?_
        refine sw_ireturn k_X7_copy rfl rfl ?_
        exact Or.inl ⟨by omega, rfl, rfl⟩
      · refine sw_blk k_X7_copy 2 46 [(7, .inr (.inr 17)), (6, .inr (.inr 19)), (0, .inr (.inr 0)), (1, .inl 2), (2, .inl i), (3, .inl 1), (4, .inl j), (5, .inl n)] [.inl (σ 17 1)] σ rfl ?_
        refine sw_if_eq k_X7_copy rfl (hσ 17 _) 55 49 (by decide) rfl (fun c13 => ?_) (fun c13 => ?_)
        · refine sw_blk k_X7_copy 4 65 [(7, .inr (.inr 17)), (6, .inr (.inr 19)), (0, .inr (.inr 0)), (1, .inl 2), (2, .inl i), (3, .inl 1), (4, .inl j), (5, .inl n)] [.inl (σ 17 2), .inl (σ 19 2)] σ rfl ?_
          refine sw_icmp_eq k_X7_copy rfl (hσ 19 _) (hσ 17 _) 74 68 (by decide) rfl (fun c14 => ?_) (fun c14 => ?_)
          · refine sw_blk k_X7_copy 3 79 [(7, .inr (.inr 17)), (6, .inr (.inr 19)), (0, .inr (.inr 0)), (1, .inl 2), (2, .inl i), (3, .inl 1), (4, .inl j), (5, .inl n)] [.inl n, .inl i, .inr (.inr 19)] σ rfl ?_
            refine sw_callV k_X7_copy rfl cV_X4_hasItems ml_X7_251 ⟨by decide, by decide⟩ 19 rfl rfl [.inl i, .inl n] [] rfl rfl (Nat.le_of_ble_eq_true rfl) 82 rfl (sp_hasItems2 σ i n (by omega) (by omega) hs0 hs1) (fun r16 σ17 hq18 => ?_)
            obtain ⟨rfl, ⟨p15, rfl⟩ | ⟨p15, rfl⟩⟩ := hq18
            · refine sw_blk k_X7_copy 0 82 [(7, .inr (.inr 17)), (6, .inr (.inr 19)), (0, .inr (.inr 0)), (1, .inl 2), (2, .inl i), (3, .inl 1), (4, .inl j), (5, .inl n)] [.inl 1] σ rfl ?_
              refine sw_if_eq k_X7_copy rfl (by decide) 97 85 (by decide) rfl (fun c => absurd c (by decide)) (fun _ => ?_)
              refine sw_blk k_X7_copy 3 91 [(7, .inr (.inr 17)), (6, .inr (.inr 19)), (0, .inr (.inr 0)), (1, .inl 2), (2, .inl i), (3, .inl 1), (4, .inl j), (5, .inl n)] [.inl n, .inl j, .inr (.inr 17)] σ rfl ?_
              refine sw_callV k_X7_copy rfl cV_X4_hasItems ml_X7_251 ⟨by decide, by decide⟩ 17 rfl rfl [.inl j, .inl n] [] rfl rfl (Nat.le_of_ble_eq_true rfl) 94 rfl (sp_hasItems1 σ j n (by omega) (by omega) ht0 ht1) (fun r20 σ21 hq22 => ?_)
              obtain ⟨rfl, ⟨p19, rfl⟩ | ⟨p19, rfl⟩⟩ := hq22
              · refine sw_blk k_X7_copy 0 94 [(7, .inr (.inr 17)), (6, .inr (.inr 19)), (0, .inr (.inr 0)), (1, .inl 2), (2, .inl i), (3, .inl 1), (4, .inl j), (5, .inl n)] [.inl 1] σ rfl ?_
                refine sw_if_ne k_X7_copy rfl (by decide) 103 97 (by decide) rfl (fun _ => ?_) (fun c => absurd c (by decide))
                refine sw_blk k_X7_copy 7 118 [(7, .inr (.inr 17)), (6, .inr (.inr 19)), (0, .inr (.inr 0)), (1, .inl 2), (2, .inl i), (3, .inl 1), (4, .inl j), (5, .inl n)] [.inl n, .inl j, .inr (.inr 18), .inl i, .inr (.inr 20)] σ rfl ?_
                refine sw_acopy k_X7_copy rfl (c1 := 20) (c2 := 18) (n1 := 60) (n2 := 60) rfl rfl (by omega) (by omega) (by omega) (by omega) (by omega) (by omega) (by omega) (by omega) 121 rfl ?_
                refine sw_blk k_X7_copy 1 122 [(7, .inr (.inr 17)), (6, .inr (.inr 19)), (0, .inr (.inr 0)), (1, .inl 2), (2, .inl i), (3, .inl 1), (4, .inl j), (5, .inl n)] [.inl 1] (sw_cp σ 20 i 18 j n) rfl ?_
                refine sw_ireturn k_X7_copy rfl rfl ?_
                exact Or.inr (Or.inr (Or.inr ⟨by omega, rfl, rfl⟩))
              · refine sw_blk k_X7_copy 0 94 [(7, .inr (.inr 17)), (6, .inr (.inr 19)), (0, .inr (.inr 0)), (1, .inl 2), (2, .inl i), (3, .inl 1), (4, .inl j), (5, .inl n)] [.inl 0] σ rfl ?_
                refine sw_if_ne k_X7_copy rfl (by decide) 103 97 (by decide) rfl (fun c => absurd (by decide) c) (fun _ => ?_)
                refine sw_blk k_X7_copy 2 99 [(7, .inr (.inr 17)), (6, .inr (.inr 19)), (0, .inr (.inr 0)), (1, .inl 2), (2, .inl i), (3, .inl 1), (4, .inl j), (5, .inl n)] [.inl 2, .inr (.inr 0)] σ rfl ?_
                refine sw_callV k_X7_copy rfl cV_X7_finding ml_X7_225 ⟨by decide, by decide⟩ 0 rfl rfl [.inl 2] [] rfl rfl (Nat.le_of_ble_eq_true rfl) 102 rfl (sp_finding σ 2) (fun r23 σ24 hq25 => ?_)
                obtain ⟨rfl, rfl⟩ := hq25
                refine sw_blk k_X7_copy 0 102 [(7, .inr (.inr 17)), (6, .inr (.inr 19)), (0, .inr (.inr 0)), (1, .inl 2), (2, .inl i), (3, .inl 1), (4, .inl j), (5, .inl n)] [.inl (-10 - 2)] (sw_u σ 0 9 2) rfl ?_
                refine sw_ireturn k_X7_copy rfl rfl ?_
                exact Or.inr (Or.inr (Or.inl ⟨by omega, rfl, rfl⟩))
            · refine sw_blk k_X7_copy 0 82 [(7, .inr (.inr 17)), (6, .inr (.inr 19)), (0, .inr (.inr 0)), (1, .inl 2), (2, .inl i), (3, .inl 1), (4, .inl j), (5, .inl n)] [.inl 0] σ rfl ?_
              refine sw_if_eq k_X7_copy rfl (by decide) 97 85 (by decide) rfl (fun _ => ?_) (fun c => absurd (by decide) c)
              refine sw_blk k_X7_copy 2 99 [(7, .inr (.inr 17)), (6, .inr (.inr 19)), (0, .inr (.inr 0)), (1, .inl 2), (2, .inl i), (3, .inl 1), (4, .inl j), (5, .inl n)] [.inl 2, .inr (.inr 0)] σ rfl ?_
              refine sw_callV k_X7_copy rfl cV_X7_finding ml_X7_225 ⟨by decide, by decide⟩ 0 rfl rfl [.inl 2] [] rfl rfl (Nat.le_of_ble_eq_true rfl) 102 rfl (sp_finding σ 2) (fun r26 σ27 hq28 => ?_)
              obtain ⟨rfl, rfl⟩ := hq28
              refine sw_blk k_X7_copy 0 102 [(7, .inr (.inr 17)), (6, .inr (.inr 19)), (0, .inr (.inr 0)), (1, .inl 2), (2, .inl i), (3, .inl 1), (4, .inl j), (5, .inl n)] [.inl (-10 - 2)] (sw_u σ 0 9 2) rfl ?_
              refine sw_ireturn k_X7_copy rfl rfl ?_
              exact Or.inr (Or.inr (Or.inl ⟨by omega, rfl, rfl⟩))
          · refine sw_blk k_X7_copy 2 70 [(7, .inr (.inr 17)), (6, .inr (.inr 19)), (0, .inr (.inr 0)), (1, .inl 2), (2, .inl i), (3, .inl 1), (4, .inl j), (5, .inl n)] [.inl 4, .inr (.inr 0)] σ rfl ?_
            refine sw_callV k_X7_copy rfl cV_X7_finding ml_X7_225 ⟨by decide, by decide⟩ 0 rfl rfl [.inl 4] [] rfl rfl (Nat.le_of_ble_eq_true rfl) 73 rfl (sp_finding σ 4) (fun r29 σ30 hq31 => ?_)
            obtain ⟨rfl, rfl⟩ := hq31
            refine sw_blk k_X7_copy 0 73 [(7, .inr (.inr 17)), (6, .inr (.inr 19)), (0, .inr (.inr 0)), (1, .inl 2), (2, .inl i), (3, .inl 1), (4, .inl j), (5, .inl n)] [.inl (-10 - 4)] (sw_u σ 0 9 4) rfl ?_
            refine sw_ireturn k_X7_copy rfl rfl ?_
            exact Or.inr (Or.inl ⟨by omega, rfl, rfl⟩)
        · refine sw_blk k_X7_copy 2 51 [(7, .inr (.inr 17)), (6, .inr (.inr 19)), (0, .inr (.inr 0)), (1, .inl 2), (2, .inl i), (3, .inl 1), (4, .inl j), (5, .inl n)] [.inl 1, .inr (.inr 0)] σ rfl ?_
          refine sw_callV k_X7_copy rfl cV_X7_finding ml_X7_225 ⟨by decide, by decide⟩ 0 rfl rfl [.inl 1] [] rfl rfl (Nat.le_of_ble_eq_true rfl) 54 rfl (sp_finding σ 1) (fun r32 σ33 hq34 => ?_)
          obtain ⟨rfl, rfl⟩ := hq34
          refine sw_blk k_X7_copy 0 54 [(7, .inr (.inr 17)), (6, .inr (.inr 19)), (0, .inr (.inr 0)), (1, .inl 2), (2, .inl i), (3, .inl 1), (4, .inl j), (5, .inl n)] [.inl (-10 - 1)] (sw_u σ 0 9 1) rfl ?_
          refine sw_ireturn k_X7_copy rfl rfl ?_
          exact Or.inl ⟨by omega, rfl, rfl⟩
    · exact absurd (by decide) p5
  · exact absurd (by decide) p1
theorem cc_copy22 (σ : sw_S) (hσ : sw_gs σ) (hs0 : 0 ≤ σ 19 3) (hs1 : σ 19 3 ≤ 60) (ht0 : 0 ≤ σ 19 3) (ht1 : σ 19 3 ≤ 60) (i j n : Int) (gi : sw_g i) (gj : sw_g j) (gn : sw_g n) : sw_Con sw_ly sw_rho M_X7_copy [.inr (.inr 0), .inl 2, .inl i, .inl 2, .inl j, .inl n] σ (fun r σ' => ((¬ σ 19 1 = 0 ∨ ¬ σ 19 1 = 0) ∧ r = some (.inl (-10 - 1)) ∧ sw_u σ 0 9 1 = σ') ∨ ((¬ (¬ σ 19 1 = 0 ∨ ¬ σ 19 1 = 0) ∧ ¬ σ 19 2 = σ 19 2) ∧ r = some (.inl (-10 - 4)) ∧ sw_u σ 0 9 4 = σ') ∨ ((¬ (¬ σ 19 1 = 0 ∨ ¬ σ 19 1 = 0) ∧ σ 19 2 = σ 19 2 ∧ ¬ ((0 ≤ i ∧ 0 ≤ n ∧ i ≤ σ 19 3 - n) ∧ (0 ≤ j ∧ 0 ≤ n ∧ j ≤ σ 19 3 - n))) ∧ r = some (.inl (-10 - 2)) ∧ sw_u σ 0 9 2 = σ') ∨ ((¬ (¬ σ 19 1 = 0 ∨ ¬ σ 19 1 = 0) ∧ σ 19 2 = σ 19 2 ∧ ((0 ≤ i ∧ 0 ≤ n ∧ i ≤ σ 19 3 - n) ∧ (0 ≤ j ∧ 0 ≤ n ∧ j ≤ σ 19 3 - n))) ∧ r = some (.inl 1) ∧ sw_cp σ 20 i 20 j n = σ')) := by
  refine sw_con (by decide) (Nat.le_of_ble_eq_true rfl) ?_
  refine sw_blk k_X7_copy 1 1 [(0, .inr (.inr 0)), (1, .inl 2), (2, .inl i), (3, .inl 2), (4, .inl j), (5, .inl n)] [.inl 2] σ rfl ?_
  refine sw_callS k_X7_copy rfl cS_X7_isSheet ml_X7_219 ⟨by decide, by decide⟩ [.inl 2] [] rfl rfl (Nat.le_of_ble_eq_true rfl) 4 rfl (sp_isSheet σ 2 (by decide)) (fun r2 σ3 hq4 => ?_)
  obtain ⟨rfl, ⟨p1, rfl⟩ | ⟨p1, rfl⟩⟩ := hq4
  · refine sw_blk k_X7_copy 0 4 [(0, .inr (.inr 0)), (1, .inl 2), (2, .inl i), (3, .inl 2), (4, .inl j), (5, .inl n)] [.inl 1] σ rfl ?_
    refine sw_if_eq k_X7_copy rfl (by decide) 14 7 (by decide) rfl (fun c => absurd c (by decide)) (fun _ => ?_)
    refine sw_blk k_X7_copy 1 8 [(0, .inr (.inr 0)), (1, .inl 2), (2, .inl i), (3, .inl 2), (4, .inl j), (5, .inl n)] [.inl 2] σ rfl ?_
    refine sw_callS k_X7_copy rfl cS_X7_isSheet ml_X7_219 ⟨by decide, by decide⟩ [.inl 2] [] rfl rfl (Nat.le_of_ble_eq_true rfl) 11 rfl (sp_isSheet σ 2 (by decide)) (fun r6 σ7 hq8 => ?_)
    obtain ⟨rfl, ⟨p5, rfl⟩ | ⟨p5, rfl⟩⟩ := hq8
    · refine sw_blk k_X7_copy 0 11 [(0, .inr (.inr 0)), (1, .inl 2), (2, .inl i), (3, .inl 2), (4, .inl j), (5, .inl n)] [.inl 1] σ rfl ?_
      refine sw_if_ne k_X7_copy rfl (by decide) 17 14 (by decide) rfl (fun _ => ?_) (fun c => absurd c (by decide))
      refine sw_blk k_X7_copy 3 22 [(0, .inr (.inr 0)), (1, .inl 2), (2, .inl i), (3, .inl 2), (4, .inl j), (5, .inl n)] [.inl 2, .inr (.inr 14)] σ rfl ?_
      refine sw_aald k_X7_copy rfl (i := 14) (n := 4) (r := 19) rfl (by decide) (by decide) (by decide) rfl 23 rfl ?_
      refine sw_blk k_X7_copy 4 30 [(6, .inr (.inr 19)), (0, .inr (.inr 0)), (1, .inl 2), (2, .inl i), (3, .inl 2), (4, .inl j), (5, .inl n)] [.inl 2, .inr (.inr 14)] σ rfl ?_
      refine sw_aald k_X7_copy rfl (i := 14) (n := 4) (r := 19) rfl (by decide) (by decide) (by decide) rfl 31 rfl ?_
      refine sw_blk k_X7_copy 3 38 [(7, .inr (.inr 19)), (6, .inr (.inr 19)), (0, .inr (.inr 0)), (1, .inl 2), (2, .inl i), (3, .inl 2), (4, .inl j), (5, .inl n)] [.inl (σ 19 1)] σ rfl ?_
      refine sw_if_ne k_X7_copy rfl (hσ 19 _) 49 41 (by decide) rfl (fun c9 => ?_) (fun c9 => ?_)
      · refine sw_blk k_X7_copy 2 51 [(7, .inr (.inr 19)), (6, .inr (.inr 19)), (0, .inr (.inr 0)), (1, .inl 2), (2, .inl i), (3, .inl 2), (4, .inl j), (5, .inl n)] [.inl 1, .inr (.inr 0)] σ rfl ?_
        refine sw_callV k_X7_copy rfl cV_X7_finding ml_X7_225 ⟨by decide, by decide⟩ 0 rfl rfl [.inl 1] [] rfl rfl (Nat.le_of_ble_eq_true rfl) 54 rfl (sp_finding σ 1) (fun r10 σ11 hq12 => ?_)
        obtain ⟨rfl, rfl⟩ := hq12
        refine sw_blk k_X7_copy 0 54 [(7, .inr (.inr 19)), (6, .inr (.inr 19)), (0, .inr (.inr 0)), (1, .inl 2), (2, .inl i), (3, .inl 2), (4, .inl j), (5, .inl n)] [.inl (-10 - 1)] (sw_u σ 0 9 1) rfl ?_
        refine sw_ireturn k_X7_copy rfl rfl ?_
        exact Or.inl ⟨by omega, rfl, rfl⟩
      · refine sw_blk k_X7_copy 2 46 [(7, .inr (.inr 19)), (6, .inr (.inr 19)), (0, .inr (.inr 0)), (1, .inl 2), (2, .inl i), (3, .inl 2), (4, .inl j), (5, .inl n)] [.inl (σ 19 1)] σ rfl ?_
        refine sw_if_eq k_X7_copy rfl (hσ 19 _) 55 49 (by decide) rfl (fun c13 => ?_) (fun c13 => ?_)
        · refine sw_blk k_X7_copy 4 65 [(7, .inr (.inr 19)), (6, .inr (.inr 19)), (0, .inr (.inr 0)), (1, .inl 2), (2, .inl i), (3, .inl 2), (4, .inl j), (5, .inl n)] [.inl (σ 19 2), .inl (σ 19 2)] σ rfl ?_
          refine sw_icmp_eq k_X7_copy rfl (hσ 19 _) (hσ 19 _) 74 68 (by decide) rfl (fun c14 => ?_) (fun c14 => ?_)
          · refine sw_blk k_X7_copy 3 79 [(7, .inr (.inr 19)), (6, .inr (.inr 19)), (0, .inr (.inr 0)), (1, .inl 2), (2, .inl i), (3, .inl 2), (4, .inl j), (5, .inl n)] [.inl n, .inl i, .inr (.inr 19)] σ rfl ?_
            refine sw_callV k_X7_copy rfl cV_X4_hasItems ml_X7_251 ⟨by decide, by decide⟩ 19 rfl rfl [.inl i, .inl n] [] rfl rfl (Nat.le_of_ble_eq_true rfl) 82 rfl (sp_hasItems2 σ i n (by omega) (by omega) hs0 hs1) (fun r16 σ17 hq18 => ?_)
            obtain ⟨rfl, ⟨p15, rfl⟩ | ⟨p15, rfl⟩⟩ := hq18
            · refine sw_blk k_X7_copy 0 82 [(7, .inr (.inr 19)), (6, .inr (.inr 19)), (0, .inr (.inr 0)), (1, .inl 2), (2, .inl i), (3, .inl 2), (4, .inl j), (5, .inl n)] [.inl 1] σ rfl ?_
              refine sw_if_eq k_X7_copy rfl (by decide) 97 85 (by decide) rfl (fun c => absurd c (by decide)) (fun _ => ?_)
              refine sw_blk k_X7_copy 3 91 [(7, .inr (.inr 19)), (6, .inr (.inr 19)), (0, .inr (.inr 0)), (1, .inl 2), (2, .inl i), (3, .inl 2), (4, .inl j), (5, .inl n)] [.inl n, .inl j, .inr (.inr 19)] σ rfl ?_
              refine sw_callV k_X7_copy rfl cV_X4_hasItems ml_X7_251 ⟨by decide, by decide⟩ 19 rfl rfl [.inl j, .inl n] [] rfl rfl (Nat.le_of_ble_eq_true rfl) 94 rfl (sp_hasItems2 σ j n (by omega) (by omega) hs0 hs1) (fun r20 σ21 hq22 => ?_)
              obtain ⟨rfl, ⟨p19, rfl⟩ | ⟨p19, rfl⟩⟩ := hq22
              · refine sw_blk k_X7_copy 0 94 [(7, .inr (.inr 19)), (6, .inr (.inr 19)), (0, .inr (.inr 0)), (1, .inl 2), (2, .inl i), (3, .inl 2), (4, .inl j), (5, .inl n)] [.inl 1] σ rfl ?_
                refine sw_if_ne k_X7_copy rfl (by decide) 103 97 (by decide) rfl (fun _ => ?_) (fun c => absurd c (by decide))
                refine sw_blk k_X7_copy 7 118 [(7, .inr (.inr 19)), (6, .inr (.inr 19)), (0, .inr (.inr 0)), (1, .inl 2), (2, .inl i), (3, .inl 2), (4, .inl j), (5, .inl n)] [.inl n, .inl j, .inr (.inr 20), .inl i, .inr (.inr 20)] σ rfl ?_
                refine sw_acopy k_X7_copy rfl (c1 := 20) (c2 := 20) (n1 := 60) (n2 := 60) rfl rfl (by omega) (by omega) (by omega) (by omega) (by omega) (by omega) (by omega) (by omega) 121 rfl ?_
                refine sw_blk k_X7_copy 1 122 [(7, .inr (.inr 19)), (6, .inr (.inr 19)), (0, .inr (.inr 0)), (1, .inl 2), (2, .inl i), (3, .inl 2), (4, .inl j), (5, .inl n)] [.inl 1] (sw_cp σ 20 i 20 j n) rfl ?_
                refine sw_ireturn k_X7_copy rfl rfl ?_
                exact Or.inr (Or.inr (Or.inr ⟨by omega, rfl, rfl⟩))
              · refine sw_blk k_X7_copy 0 94 [(7, .inr (.inr 19)), (6, .inr (.inr 19)), (0, .inr (.inr 0)), (1, .inl 2), (2, .inl i), (3, .inl 2), (4, .inl j), (5, .inl n)] [.inl 0] σ rfl ?_
                refine sw_if_ne k_X7_copy rfl (by decide) 103 97 (by decide) rfl (fun c => absurd (by decide) c) (fun _ => ?_)
                refine sw_blk k_X7_copy 2 99 [(7, .inr (.inr 19)), (6, .inr (.inr 19)), (0, .inr (.inr 0)), (1, .inl 2), (2, .inl i), (3, .inl 2), (4, .inl j), (5, .inl n)] [.inl 2, .inr (.inr 0)] σ rfl ?_
                refine sw_callV k_X7_copy rfl cV_X7_finding ml_X7_225 ⟨by decide, by decide⟩ 0 rfl rfl [.inl 2] [] rfl rfl (Nat.le_of_ble_eq_true rfl) 102 rfl (sp_finding σ 2) (fun r23 σ24 hq25 => ?_)
                obtain ⟨rfl, rfl⟩ := hq25
                refine sw_blk k_X7_copy 0 102 [(7, .inr (.inr 19)), (6, .inr (.inr 19)), (0, .inr (.inr 0)), (1, .inl 2), (2, .inl i), (3, .inl 2), (4, .inl j), (5, .inl n)] [.inl (-10 - 2)] (sw_u σ 0 9 2) rfl ?_
                refine sw_ireturn k_X7_copy rfl rfl ?_
                exact Or.inr (Or.inr (Or.inl ⟨by omega, rfl, rfl⟩))
            · refine sw_blk k_X7_copy 0 82 [(7, .inr (.inr 19)), (6, .inr (.inr 19)), (0, .inr (.inr 0)), (1, .inl 2), (2, .inl i), (3, .inl 2), (4, .inl j), (5, .inl n)] [.inl 0] σ rfl ?_
              refine sw_if_eq k_X7_copy rfl (by decide) 97 85 (by decide) rfl (fun _ => ?_) (fun c => absurd (by decide) c)
              refine sw_blk k_X7_copy 2 99 [(7, .inr (.inr 19)), (6, .inr (.inr 19)), (0, .inr (.inr 0)), (1, .inl 2), (2, .inl i), (3, .inl 2), (4, .inl j), (5, .inl n)] [.inl 2, .inr (.inr 0)] σ rfl ?_
              refine sw_callV k_X7_copy rfl cV_X7_finding ml_X7_225 ⟨by decide, by decide⟩ 0 rfl rfl [.inl 2] [] rfl rfl (Nat.le_of_ble_eq_true rfl) 102 rfl (sp_finding σ 2) (fun r26 σ27 hq28 => ?_)
              obtain ⟨rfl, rfl⟩ := hq28
              refine sw_blk k_X7_copy 0 102 [(7, .inr (.inr 19)), (6, .inr (.inr 19)), (0, .inr (.inr 0)), (1, .inl 2), (2, .inl i), (3, .inl 2), (4, .inl j), (5, .inl n)] [.inl (-10 - 2)] (sw_u σ 0 9 2) rfl ?_
              refine sw_ireturn k_X7_copy rfl rfl ?_
              exact Or.inr (Or.inr (Or.inl ⟨by omega, rfl, rfl⟩))
          · refine sw_blk k_X7_copy 2 70 [(7, .inr (.inr 19)), (6, .inr (.inr 19)), (0, .inr (.inr 0)), (1, .inl 2), (2, .inl i), (3, .inl 2), (4, .inl j), (5, .inl n)] [.inl 4, .inr (.inr 0)] σ rfl ?_
            refine sw_callV k_X7_copy rfl cV_X7_finding ml_X7_225 ⟨by decide, by decide⟩ 0 rfl rfl [.inl 4] [] rfl rfl (Nat.le_of_ble_eq_true rfl) 73 rfl (sp_finding σ 4) (fun r29 σ30 hq31 => ?_)
            obtain ⟨rfl, rfl⟩ := hq31
            refine sw_blk k_X7_copy 0 73 [(7, .inr (.inr 19)), (6, .inr (.inr 19)), (0, .inr (.inr 0)), (1, .inl 2), (2, .inl i), (3, .inl 2), (4, .inl j), (5, .inl n)] [.inl (-10 - 4)] (sw_u σ 0 9 4) rfl ?_
            refine sw_ireturn k_X7_copy rfl rfl ?_
            exact Or.inr (Or.inl ⟨by omega, rfl, rfl⟩)
        · refine sw_blk k_X7_copy 2 51 [(7, .inr (.inr 19)), (6, .inr (.inr 19)), (0, .inr (.inr 0)), (1, .inl 2), (2, .inl i), (3, .inl 2), (4, .inl j), (5, .inl n)] [.inl 1, .inr (.inr 0)] σ rfl ?_
          refine sw_callV k_X7_copy rfl cV_X7_finding ml_X7_225 ⟨by decide, by decide⟩ 0 rfl rfl [.inl 1] [] rfl rfl (Nat.le_of_ble_eq_true rfl) 54 rfl (sp_finding σ 1) (fun r32 σ33 hq34 => ?_)
          obtain ⟨rfl, rfl⟩ := hq34
          refine sw_blk k_X7_copy 0 54 [(7, .inr (.inr 19)), (6, .inr (.inr 19)), (0, .inr (.inr 0)), (1, .inl 2), (2, .inl i), (3, .inl 2), (4, .inl j), (5, .inl n)] [.inl (-10 - 1)] (sw_u σ 0 9 1) rfl ?_
          refine sw_ireturn k_X7_copy rfl rfl ?_
          exact Or.inl ⟨by omega, rfl, rfl⟩
    · exact absurd (by decide) p5
  · exact absurd (by decide) p1
theorem cc_copy23 (σ : sw_S) (hσ : sw_gs σ) (hs0 : 0 ≤ σ 19 3) (hs1 : σ 19 3 ≤ 60) (ht0 : 0 ≤ σ 21 3) (ht1 : σ 21 3 ≤ 60) (i j n : Int) (gi : sw_g i) (gj : sw_g j) (gn : sw_g n) : sw_Con sw_ly sw_rho M_X7_copy [.inr (.inr 0), .inl 2, .inl i, .inl 3, .inl j, .inl n] σ (fun r σ' => ((¬ σ 19 1 = 0 ∨ ¬ σ 21 1 = 0) ∧ r = some (.inl (-10 - 1)) ∧ sw_u σ 0 9 1 = σ') ∨ ((¬ (¬ σ 19 1 = 0 ∨ ¬ σ 21 1 = 0) ∧ ¬ σ 19 2 = σ 21 2) ∧ r = some (.inl (-10 - 4)) ∧ sw_u σ 0 9 4 = σ') ∨ ((¬ (¬ σ 19 1 = 0 ∨ ¬ σ 21 1 = 0) ∧ σ 19 2 = σ 21 2 ∧ ¬ ((0 ≤ i ∧ 0 ≤ n ∧ i ≤ σ 19 3 - n) ∧ (0 ≤ j ∧ 0 ≤ n ∧ j ≤ σ 21 3 - n))) ∧ r = some (.inl (-10 - 2)) ∧ sw_u σ 0 9 2 = σ') ∨ ((¬ (¬ σ 19 1 = 0 ∨ ¬ σ 21 1 = 0) ∧ σ 19 2 = σ 21 2 ∧ ((0 ≤ i ∧ 0 ≤ n ∧ i ≤ σ 19 3 - n) ∧ (0 ≤ j ∧ 0 ≤ n ∧ j ≤ σ 21 3 - n))) ∧ r = some (.inl 1) ∧ sw_cp σ 20 i 22 j n = σ')) := by
  refine sw_con (by decide) (Nat.le_of_ble_eq_true rfl) ?_
  refine sw_blk k_X7_copy 1 1 [(0, .inr (.inr 0)), (1, .inl 2), (2, .inl i), (3, .inl 3), (4, .inl j), (5, .inl n)] [.inl 2] σ rfl ?_
  refine sw_callS k_X7_copy rfl cS_X7_isSheet ml_X7_219 ⟨by decide, by decide⟩ [.inl 2] [] rfl rfl (Nat.le_of_ble_eq_true rfl) 4 rfl (sp_isSheet σ 2 (by decide)) (fun r2 σ3 hq4 => ?_)
  obtain ⟨rfl, ⟨p1, rfl⟩ | ⟨p1, rfl⟩⟩ := hq4
  · refine sw_blk k_X7_copy 0 4 [(0, .inr (.inr 0)), (1, .inl 2), (2, .inl i), (3, .inl 3), (4, .inl j), (5, .inl n)] [.inl 1] σ rfl ?_
    refine sw_if_eq k_X7_copy rfl (by decide) 14 7 (by decide) rfl (fun c => absurd c (by decide)) (fun _ => ?_)
    refine sw_blk k_X7_copy 1 8 [(0, .inr (.inr 0)), (1, .inl 2), (2, .inl i), (3, .inl 3), (4, .inl j), (5, .inl n)] [.inl 3] σ rfl ?_
    refine sw_callS k_X7_copy rfl cS_X7_isSheet ml_X7_219 ⟨by decide, by decide⟩ [.inl 3] [] rfl rfl (Nat.le_of_ble_eq_true rfl) 11 rfl (sp_isSheet σ 3 (by decide)) (fun r6 σ7 hq8 => ?_)
    obtain ⟨rfl, ⟨p5, rfl⟩ | ⟨p5, rfl⟩⟩ := hq8
    · refine sw_blk k_X7_copy 0 11 [(0, .inr (.inr 0)), (1, .inl 2), (2, .inl i), (3, .inl 3), (4, .inl j), (5, .inl n)] [.inl 1] σ rfl ?_
      refine sw_if_ne k_X7_copy rfl (by decide) 17 14 (by decide) rfl (fun _ => ?_) (fun c => absurd c (by decide))
      refine sw_blk k_X7_copy 3 22 [(0, .inr (.inr 0)), (1, .inl 2), (2, .inl i), (3, .inl 3), (4, .inl j), (5, .inl n)] [.inl 2, .inr (.inr 14)] σ rfl ?_
      refine sw_aald k_X7_copy rfl (i := 14) (n := 4) (r := 19) rfl (by decide) (by decide) (by decide) rfl 23 rfl ?_
      refine sw_blk k_X7_copy 4 30 [(6, .inr (.inr 19)), (0, .inr (.inr 0)), (1, .inl 2), (2, .inl i), (3, .inl 3), (4, .inl j), (5, .inl n)] [.inl 3, .inr (.inr 14)] σ rfl ?_
      refine sw_aald k_X7_copy rfl (i := 14) (n := 4) (r := 21) rfl (by decide) (by decide) (by decide) rfl 31 rfl ?_
      refine sw_blk k_X7_copy 3 38 [(7, .inr (.inr 21)), (6, .inr (.inr 19)), (0, .inr (.inr 0)), (1, .inl 2), (2, .inl i), (3, .inl 3), (4, .inl j), (5, .inl n)] [.inl (σ 19 1)] σ rfl ?_
      refine sw_if_ne k_X7_copy rfl (hσ 19 _) 49 41 (by decide) rfl (fun c9 => ?_) (fun c9 => ?_)
      · refine sw_blk k_X7_copy 2 51 [(7, .inr (.inr 21)), (6, .inr (.inr 19)), (0, .inr (.inr 0)), (1, .inl 2), (2, .inl i), (3, .inl 3), (4, .inl j), (5, .inl n)] [.inl 1, .inr (.inr 0)] σ rfl ?_
        refine sw_callV k_X7_copy rfl cV_X7_finding ml_X7_225 ⟨by decide, by decide⟩ 0 rfl rfl [.inl 1] [] rfl rfl (Nat.le_of_ble_eq_true rfl) 54 rfl (sp_finding σ 1) (fun r10 σ11 hq12 => ?_)
        obtain ⟨rfl, rfl⟩ := hq12
        refine sw_blk k_X7_copy 0 54 [(7, .inr (.inr 21)), (6, .inr (.inr 19)), (0, .inr (.inr 0)), (1, .inl 2), (2, .inl i), (3, .inl 3), (4, .inl j), (5, .inl n)] [.inl (-10 - 1)] (sw_u σ 0 9 1) rfl ?_
        refine sw_ireturn k_X7_copy rfl rfl ?_
        exact Or.inl ⟨by omega, rfl, rfl⟩
      · refine sw_blk k_X7_copy 2 46 [(7, .inr (.inr 21)), (6, .inr (.inr 19)), (0, .inr (.inr 0)), (1, .inl 2), (2, .inl i), (3, .inl 3), (4, .inl j), (5, .inl n)] [.inl (σ 21 1)] σ rfl ?_
        refine sw_if_eq k_X7_copy rfl (hσ 21 _) 55 49 (by decide) rfl (fun c13 => ?_) (fun c13 => ?_)
        · refine sw_blk k_X7_copy 4 65 [(7, .inr (.inr 21)), (6, .inr (.inr 19)), (0, .inr (.inr 0)), (1, .inl 2), (2, .inl i), (3, .inl 3), (4, .inl j), (5, .inl n)] [.inl (σ 21 2), .inl (σ 19 2)] σ rfl ?_
          refine sw_icmp_eq k_X7_copy rfl (hσ 19 _) (hσ 21 _) 74 68 (by decide) rfl (fun c14 => ?_) (fun c14 => ?_)
          · refine sw_blk k_X7_copy 3 79 [(7, .inr (.inr 21)), (6, .inr (.inr 19)), (0, .inr (.inr 0)), (1, .inl 2), (2, .inl i), (3, .inl 3), (4, .inl j), (5, .inl n)] [.inl n, .inl i, .inr (.inr 19)] σ rfl ?_
            refine sw_callV k_X7_copy rfl cV_X4_hasItems ml_X7_251 ⟨by decide, by decide⟩ 19 rfl rfl [.inl i, .inl n] [] rfl rfl (Nat.le_of_ble_eq_true rfl) 82 rfl (sp_hasItems2 σ i n (by omega) (by omega) hs0 hs1) (fun r16 σ17 hq18 => ?_)
            obtain ⟨rfl, ⟨p15, rfl⟩ | ⟨p15, rfl⟩⟩ := hq18
            · refine sw_blk k_X7_copy 0 82 [(7, .inr (.inr 21)), (6, .inr (.inr 19)), (0, .inr (.inr 0)), (1, .inl 2), (2, .inl i), (3, .inl 3), (4, .inl j), (5, .inl n)] [.inl 1] σ rfl ?_
              refine sw_if_eq k_X7_copy rfl (by decide) 97 85 (by decide) rfl (fun c => absurd c (by decide)) (fun _ => ?_)
              refine sw_blk k_X7_copy 3 91 [(7, .inr (.inr 21)), (6, .inr (.inr 19)), (0, .inr (.inr 0)), (1, .inl 2), (2, .inl i), (3, .inl 3), (4, .inl j), (5, .inl n)] [.inl n, .inl j, .inr (.inr 21)] σ rfl ?_
              refine sw_callV k_X7_copy rfl cV_X4_hasItems ml_X7_251 ⟨by decide, by decide⟩ 21 rfl rfl [.inl j, .inl n] [] rfl rfl (Nat.le_of_ble_eq_true rfl) 94 rfl (sp_hasItems3 σ j n (by omega) (by omega) ht0 ht1) (fun r20 σ21 hq22 => ?_)
              obtain ⟨rfl, ⟨p19, rfl⟩ | ⟨p19, rfl⟩⟩ := hq22
              · refine sw_blk k_X7_copy 0 94 [(7, .inr (.inr 21)), (6, .inr (.inr 19)), (0, .inr (.inr 0)), (1, .inl 2), (2, .inl i), (3, .inl 3), (4, .inl j), (5, .inl n)] [.inl 1] σ rfl ?_
                refine sw_if_ne k_X7_copy rfl (by decide) 103 97 (by decide) rfl (fun _ => ?_) (fun c => absurd c (by decide))
                refine sw_blk k_X7_copy 7 118 [(7, .inr (.inr 21)), (6, .inr (.inr 19)), (0, .inr (.inr 0)), (1, .inl 2), (2, .inl i), (3, .inl 3), (4, .inl j), (5, .inl n)] [.inl n, .inl j, .inr (.inr 22), .inl i, .inr (.inr 20)] σ rfl ?_
                refine sw_acopy k_X7_copy rfl (c1 := 20) (c2 := 22) (n1 := 60) (n2 := 60) rfl rfl (by omega) (by omega) (by omega) (by omega) (by omega) (by omega) (by omega) (by omega) 121 rfl ?_
                refine sw_blk k_X7_copy 1 122 [(7, .inr (.inr 21)), (6, .inr (.inr 19)), (0, .inr (.inr 0)), (1, .inl 2), (2, .inl i), (3, .inl 3), (4, .inl j), (5, .inl n)] [.inl 1] (sw_cp σ 20 i 22 j n) rfl ?_
                refine sw_ireturn k_X7_copy rfl rfl ?_
                exact Or.inr (Or.inr (Or.inr ⟨by omega, rfl, rfl⟩))
              · refine sw_blk k_X7_copy 0 94 [(7, .inr (.inr 21)), (6, .inr (.inr 19)), (0, .inr (.inr 0)), (1, .inl 2), (2, .inl i), (3, .inl 3), (4, .inl j), (5, .inl n)] [.inl 0] σ rfl ?_
                refine sw_if_ne k_X7_copy rfl (by decide) 103 97 (by decide) rfl (fun c => absurd (by decide) c) (fun _ => ?_)
                refine sw_blk k_X7_copy 2 99 [(7, .inr (.inr 21)), (6, .inr (.inr 19)), (0, .inr (.inr 0)), (1, .inl 2), (2, .inl i), (3, .inl 3), (4, .inl j), (5, .inl n)] [.inl 2, .inr (.inr 0)] σ rfl ?_
                refine sw_callV k_X7_copy rfl cV_X7_finding ml_X7_225 ⟨by decide, by decide⟩ 0 rfl rfl [.inl 2] [] rfl rfl (Nat.le_of_ble_eq_true rfl) 102 rfl (sp_finding σ 2) (fun r23 σ24 hq25 => ?_)
                obtain ⟨rfl, rfl⟩ := hq25
                refine sw_blk k_X7_copy 0 102 [(7, .inr (.inr 21)), (6, .inr (.inr 19)), (0, .inr (.inr 0)), (1, .inl 2), (2, .inl i), (3, .inl 3), (4, .inl j), (5, .inl n)] [.inl (-10 - 2)] (sw_u σ 0 9 2) rfl ?_
                refine sw_ireturn k_X7_copy rfl rfl ?_
                exact Or.inr (Or.inr (Or.inl ⟨by omega, rfl, rfl⟩))
            · refine sw_blk k_X7_copy 0 82 [(7, .inr (.inr 21)), (6, .inr (.inr 19)), (0, .inr (.inr 0)), (1, .inl 2), (2, .inl i), (3, .inl 3), (4, .inl j), (5, .inl n)] [.inl 0] σ rfl ?_
              refine sw_if_eq k_X7_copy rfl (by decide) 97 85 (by decide) rfl (fun _ => ?_) (fun c => absurd (by decide) c)
              refine sw_blk k_X7_copy 2 99 [(7, .inr (.inr 21)), (6, .inr (.inr 19)), (0, .inr (.inr 0)), (1, .inl 2), (2, .inl i), (3, .inl 3), (4, .inl j), (5, .inl n)] [.inl 2, .inr (.inr 0)] σ rfl ?_
              refine sw_callV k_X7_copy rfl cV_X7_finding ml_X7_225 ⟨by decide, by decide⟩ 0 rfl rfl [.inl 2] [] rfl rfl (Nat.le_of_ble_eq_true rfl) 102 rfl (sp_finding σ 2) (fun r26 σ27 hq28 => ?_)
              obtain ⟨rfl, rfl⟩ := hq28
              refine sw_blk k_X7_copy 0 102 [(7, .inr (.inr 21)), (6, .inr (.inr 19)), (0, .inr (.inr 0)), (1, .inl 2), (2, .inl i), (3, .inl 3), (4, .inl j), (5, .inl n)] [.inl (-10 - 2)] (sw_u σ 0 9 2) rfl ?_
              refine sw_ireturn k_X7_copy rfl rfl ?_
              exact Or.inr (Or.inr (Or.inl ⟨by omega, rfl, rfl⟩))
          · refine sw_blk k_X7_copy 2 70 [(7, .inr (.inr 21)), (6, .inr (.inr 19)), (0, .inr (.inr 0)), (1, .inl 2), (2, .inl i), (3, .inl 3), (4, .inl j), (5, .inl n)] [.inl 4, .inr (.inr 0)] σ rfl ?_
            refine sw_callV k_X7_copy rfl cV_X7_finding ml_X7_225 ⟨by decide, by decide⟩ 0 rfl rfl [.inl 4] [] rfl rfl (Nat.le_of_ble_eq_true rfl) 73 rfl (sp_finding σ 4) (fun r29 σ30 hq31 => ?_)
            obtain ⟨rfl, rfl⟩ := hq31
            refine sw_blk k_X7_copy 0 73 [(7, .inr (.inr 21)), (6, .inr (.inr 19)), (0, .inr (.inr 0)), (1, .inl 2), (2, .inl i), (3, .inl 3), (4, .inl j), (5, .inl n)] [.inl (-10 - 4)] (sw_u σ 0 9 4) rfl ?_
            refine sw_ireturn k_X7_copy rfl rfl ?_
            exact Or.inr (Or.inl ⟨by omega, rfl, rfl⟩)
        · refine sw_blk k_X7_copy 2 51 [(7, .inr (.inr 21)), (6, .inr (.inr 19)), (0, .inr (.inr 0)), (1, .inl 2), (2, .inl i), (3, .inl 3), (4, .inl j), (5, .inl n)] [.inl 1, .inr (.inr 0)] σ rfl ?_
          refine sw_callV k_X7_copy rfl cV_X7_finding ml_X7_225 ⟨by decide, by decide⟩ 0 rfl rfl [.inl 1] [] rfl rfl (Nat.le_of_ble_eq_true rfl) 54 rfl (sp_finding σ 1) (fun r32 σ33 hq34 => ?_)
          obtain ⟨rfl, rfl⟩ := hq34
          refine sw_blk k_X7_copy 0 54 [(7, .inr (.inr 21)), (6, .inr (.inr 19)), (0, .inr (.inr 0)), (1, .inl 2), (2, .inl i), (3, .inl 3), (4, .inl j), (5, .inl n)] [.inl (-10 - 1)] (sw_u σ 0 9 1) rfl ?_
          refine sw_ireturn k_X7_copy rfl rfl ?_
          exact Or.inl ⟨by omega, rfl, rfl⟩
    · exact absurd (by decide) p5
  · exact absurd (by decide) p1
theorem cc_copy30 (σ : sw_S) (hσ : sw_gs σ) (hs0 : 0 ≤ σ 21 3) (hs1 : σ 21 3 ≤ 60) (ht0 : 0 ≤ σ 15 3) (ht1 : σ 15 3 ≤ 60) (i j n : Int) (gi : sw_g i) (gj : sw_g j) (gn : sw_g n) : sw_Con sw_ly sw_rho M_X7_copy [.inr (.inr 0), .inl 3, .inl i, .inl 0, .inl j, .inl n] σ (fun r σ' => ((¬ σ 21 1 = 0 ∨ ¬ σ 15 1 = 0) ∧ r = some (.inl (-10 - 1)) ∧ sw_u σ 0 9 1 = σ') ∨ ((¬ (¬ σ 21 1 = 0 ∨ ¬ σ 15 1 = 0) ∧ ¬ σ 21 2 = σ 15 2) ∧ r = some (.inl (-10 - 4)) ∧ sw_u σ 0 9 4 = σ') ∨ ((¬ (¬ σ 21 1 = 0 ∨ ¬ σ 15 1 = 0) ∧ σ 21 2 = σ 15 2 ∧ ¬ ((0 ≤ i ∧ 0 ≤ n ∧ i ≤ σ 21 3 - n) ∧ (0 ≤ j ∧ 0 ≤ n ∧ j ≤ σ 15 3 - n))) ∧ r = some (.inl (-10 - 2)) ∧ sw_u σ 0 9 2 = σ') ∨ ((¬ (¬ σ 21 1 = 0 ∨ ¬ σ 15 1 = 0) ∧ σ 21 2 = σ 15 2 ∧ ((0 ≤ i ∧ 0 ≤ n ∧ i ≤ σ 21 3 - n) ∧ (0 ≤ j ∧ 0 ≤ n ∧ j ≤ σ 15 3 - n))) ∧ r = some (.inl 1) ∧ sw_cp σ 22 i 16 j n = σ')) := by
  refine sw_con (by decide) (Nat.le_of_ble_eq_true rfl) ?_
  refine sw_blk k_X7_copy 1 1 [(0, .inr (.inr 0)), (1, .inl 3), (2, .inl i), (3, .inl 0), (4, .inl j), (5, .inl n)] [.inl 3] σ rfl ?_
  refine sw_callS k_X7_copy rfl cS_X7_isSheet ml_X7_219 ⟨by decide, by decide⟩ [.inl 3] [] rfl rfl (Nat.le_of_ble_eq_true rfl) 4 rfl (sp_isSheet σ 3 (by decide)) (fun r2 σ3 hq4 => ?_)
  obtain ⟨rfl, ⟨p1, rfl⟩ | ⟨p1, rfl⟩⟩ := hq4
  · refine sw_blk k_X7_copy 0 4 [(0, .inr (.inr 0)), (1, .inl 3), (2, .inl i), (3, .inl 0), (4, .inl j), (5, .inl n)] [.inl 1] σ rfl ?_
    refine sw_if_eq k_X7_copy rfl (by decide) 14 7 (by decide) rfl (fun c => absurd c (by decide)) (fun _ => ?_)
    refine sw_blk k_X7_copy 1 8 [(0, .inr (.inr 0)), (1, .inl 3), (2, .inl i), (3, .inl 0), (4, .inl j), (5, .inl n)] [.inl 0] σ rfl ?_
    refine sw_callS k_X7_copy rfl cS_X7_isSheet ml_X7_219 ⟨by decide, by decide⟩ [.inl 0] [] rfl rfl (Nat.le_of_ble_eq_true rfl) 11 rfl (sp_isSheet σ 0 (by decide)) (fun r6 σ7 hq8 => ?_)
    obtain ⟨rfl, ⟨p5, rfl⟩ | ⟨p5, rfl⟩⟩ := hq8
    · refine sw_blk k_X7_copy 0 11 [(0, .inr (.inr 0)), (1, .inl 3), (2, .inl i), (3, .inl 0), (4, .inl j), (5, .inl n)] [.inl 1] σ rfl ?_
      refine sw_if_ne k_X7_copy rfl (by decide) 17 14 (by decide) rfl (fun _ => ?_) (fun c => absurd c (by decide))
      refine sw_blk k_X7_copy 3 22 [(0, .inr (.inr 0)), (1, .inl 3), (2, .inl i), (3, .inl 0), (4, .inl j), (5, .inl n)] [.inl 3, .inr (.inr 14)] σ rfl ?_
      refine sw_aald k_X7_copy rfl (i := 14) (n := 4) (r := 21) rfl (by decide) (by decide) (by decide) rfl 23 rfl ?_
      refine sw_blk k_X7_copy 4 30 [(6, .inr (.inr 21)), (0, .inr (.inr 0)), (1, .inl 3), (2, .inl i), (3, .inl 0), (4, .inl j), (5, .inl n)] [.inl 0, .inr (.inr 14)] σ rfl ?_
      refine sw_aald k_X7_copy rfl (i := 14) (n := 4) (r := 15) rfl (by decide) (by decide) (by decide) rfl 31 rfl ?_
      refine sw_blk k_X7_copy 3 38 [(7, .inr (.inr 15)), (6, .inr (.inr 21)), (0, .inr (.inr 0)), (1, .inl 3), (2, .inl i), (3, .inl 0), (4, .inl j), (5, .inl n)] [.inl (σ 21 1)] σ rfl ?_
      refine sw_if_ne k_X7_copy rfl (hσ 21 _) 49 41 (by decide) rfl (fun c9 => ?_) (fun c9 => ?_)
      · refine sw_blk k_X7_copy 2 51 [(7, .inr (.inr 15)), (6, .inr (.inr 21)), (0, .inr (.inr 0)), (1, .inl 3), (2, .inl i), (3, .inl 0), (4, .inl j), (5, .inl n)] [.inl 1, .inr (.inr 0)] σ rfl ?_
        refine sw_callV k_X7_copy rfl cV_X7_finding ml_X7_225 ⟨by decide, by decide⟩ 0 rfl rfl [.inl 1] [] rfl rfl (Nat.le_of_ble_eq_true rfl) 54 rfl (sp_finding σ 1) (fun r10 σ11 hq12 => ?_)
        obtain ⟨rfl, rfl⟩ := hq12
        refine sw_blk k_X7_copy 0 54 [(7, .inr (.inr 15)), (6, .inr (.inr 21)), (0, .inr (.inr 0)), (1, .inl 3), (2, .inl i), (3, .inl 0), (4, .inl j), (5, .inl n)] [.inl (-10 - 1)] (sw_u σ 0 9 1) rfl ?_
        refine sw_ireturn k_X7_copy rfl rfl ?_
        exact Or.inl ⟨by omega, rfl, rfl⟩
      · refine sw_blk k_X7_copy 2 46 [(7, .inr (.inr 15)), (6, .inr (.inr 21)), (0, .inr (.inr 0)), (1, .inl 3), (2, .inl i), (3, .inl 0), (4, .inl j), (5, .inl n)] [.inl (σ 15 1)] σ rfl ?_
        refine sw_if_eq k_X7_copy rfl (hσ 15 _) 55 49 (by decide) rfl (fun c13 => ?_) (fun c13 => ?_)
        · refine sw_blk k_X7_copy 4 65 [(7, .inr (.inr 15)), (6, .inr (.inr 21)), (0, .inr (.inr 0)), (1, .inl 3), (2, .inl i), (3, .inl 0), (4, .inl j), (5, .inl n)] [.inl (σ 15 2), .inl (σ 21 2)] σ rfl ?_
          refine sw_icmp_eq k_X7_copy rfl (hσ 21 _) (hσ 15 _) 74 68 (by decide) rfl (fun c14 => ?_) (fun c14 => ?_)
          · refine sw_blk k_X7_copy 3 79 [(7, .inr (.inr 15)), (6, .inr (.inr 21)), (0, .inr (.inr 0)), (1, .inl 3), (2, .inl i), (3, .inl 0), (4, .inl j), (5, .inl n)] [.inl n, .inl i, .inr (.inr 21)] σ rfl ?_
            refine sw_callV k_X7_copy rfl cV_X4_hasItems ml_X7_251 ⟨by decide, by decide⟩ 21 rfl rfl [.inl i, .inl n] [] rfl rfl (Nat.le_of_ble_eq_true rfl) 82 rfl (sp_hasItems3 σ i n (by omega) (by omega) hs0 hs1) (fun r16 σ17 hq18 => ?_)
            obtain ⟨rfl, ⟨p15, rfl⟩ | ⟨p15, rfl⟩⟩ := hq18
            · refine sw_blk k_X7_copy 0 82 [(7, .inr (.inr 15)), (6, .inr (.inr 21)), (0, .inr (.inr 0)), (1, .inl 3), (2, .inl i), (3, .inl 0), (4, .inl j), (5, .inl n)] [.inl 1] σ rfl ?_
              refine sw_if_eq k_X7_copy rfl (by decide) 97 85 (by decide) rfl (fun c => absurd c (by decide)) (fun _ => ?_)
              refine sw_blk k_X7_copy 3 91 [(7, .inr (.inr 15)), (6, .inr (.inr 21)), (0, .inr (.inr 0)), (1, .inl 3), (2, .inl i), (3, .inl 0), (4, .inl j), (5, .inl n)] [.inl n, .inl j, .inr (.inr 15)] σ rfl ?_
              refine sw_callV k_X7_copy rfl cV_X4_hasItems ml_X7_251 ⟨by decide, by decide⟩ 15 rfl rfl [.inl j, .inl n] [] rfl rfl (Nat.le_of_ble_eq_true rfl) 94 rfl (sp_hasItems0 σ j n (by omega) (by omega) ht0 ht1) (fun r20 σ21 hq22 => ?_)
              obtain ⟨rfl, ⟨p19, rfl⟩ | ⟨p19, rfl⟩⟩ := hq22
              · refine sw_blk k_X7_copy 0 94 [(7, .inr (.inr 15)), (6, .inr (.inr 21)), (0, .inr (.inr 0)), (1, .inl 3), (2, .inl i), (3, .inl 0), (4, .inl j), (5, .inl n)] [.inl 1] σ rfl ?_
                refine sw_if_ne k_X7_copy rfl (by decide) 103 97 (by decide) rfl (fun _ => ?_) (fun c => absurd c (by decide))
                refine sw_blk k_X7_copy 7 118 [(7, .inr (.inr 15)), (6, .inr (.inr 21)), (0, .inr (.inr 0)), (1, .inl 3), (2, .inl i), (3, .inl 0), (4, .inl j), (5, .inl n)] [.inl n, .inl j, .inr (.inr 16), .inl i, .inr (.inr 22)] σ rfl ?_
                refine sw_acopy k_X7_copy rfl (c1 := 22) (c2 := 16) (n1 := 60) (n2 := 60) rfl rfl (by omega) (by omega) (by omega) (by omega) (by omega) (by omega) (by omega) (by omega) 121 rfl ?_
                refine sw_blk k_X7_copy 1 122 [(7, .inr (.inr 15)), (6, .inr (.inr 21)), (0, .inr (.inr 0)), (1, .inl 3), (2, .inl i), (3, .inl 0), (4, .inl j), (5, .inl n)] [.inl 1] (sw_cp σ 22 i 16 j n) rfl ?_
                refine sw_ireturn k_X7_copy rfl rfl ?_
                exact Or.inr (Or.inr (Or.inr ⟨by omega, rfl, rfl⟩))
              · refine sw_blk k_X7_copy 0 94 [(7, .inr (.inr 15)), (6, .inr (.inr 21)), (0, .inr (.inr 0)), (1, .inl 3), (2, .inl i), (3, .inl 0), (4, .inl j), (5, .inl n)] [.inl 0] σ rfl ?_
                refine sw_if_ne k_X7_copy rfl (by decide) 103 97 (by decide) rfl (fun c => absurd (by decide) c) (fun _ => ?_)
                refine sw_blk k_X7_copy 2 99 [(7, .inr (.inr 15)), (6, .inr (.inr 21)), (0, .inr (.inr 0)), (1, .inl 3), (2, .inl i), (3, .inl 0), (4, .inl j), (5, .inl n)] [.inl 2, .inr (.inr 0)] σ rfl ?_
                refine sw_callV k_X7_copy rfl cV_X7_finding ml_X7_225 ⟨by decide, by decide⟩ 0 rfl rfl [.inl 2] [] rfl rfl (Nat.le_of_ble_eq_true rfl) 102 rfl (sp_finding σ 2) (fun r23 σ24 hq25 => ?_)
                obtain ⟨rfl, rfl⟩ := hq25
                refine sw_blk k_X7_copy 0 102 [(7, .inr (.inr 15)), (6, .inr (.inr 21)), (0, .inr (.inr 0)), (1, .inl 3), (2, .inl i), (3, .inl 0), (4, .inl j), (5, .inl n)] [.inl (-10 - 2)] (sw_u σ 0 9 2) rfl ?_
                refine sw_ireturn k_X7_copy rfl rfl ?_
                exact Or.inr (Or.inr (Or.inl ⟨by omega, rfl, rfl⟩))
            · refine sw_blk k_X7_copy 0 82 [(7, .inr (.inr 15)), (6, .inr (.inr 21)), (0, .inr (.inr 0)), (1, .inl 3), (2, .inl i), (3, .inl 0), (4, .inl j), (5, .inl n)] [.inl 0] σ rfl ?_
              refine sw_if_eq k_X7_copy rfl (by decide) 97 85 (by decide) rfl (fun _ => ?_) (fun c => absurd (by decide) c)
              refine sw_blk k_X7_copy 2 99 [(7, .inr (.inr 15)), (6, .inr (.inr 21)), (0, .inr (.inr 0)), (1, .inl 3), (2, .inl i), (3, .inl 0), (4, .inl j), (5, .inl n)] [.inl 2, .inr (.inr 0)] σ rfl ?_
              refine sw_callV k_X7_copy rfl cV_X7_finding ml_X7_225 ⟨by decide, by decide⟩ 0 rfl rfl [.inl 2] [] rfl rfl (Nat.le_of_ble_eq_true rfl) 102 rfl (sp_finding σ 2) (fun r26 σ27 hq28 => ?_)
              obtain ⟨rfl, rfl⟩ := hq28
              refine sw_blk k_X7_copy 0 102 [(7, .inr (.inr 15)), (6, .inr (.inr 21)), (0, .inr (.inr 0)), (1, .inl 3), (2, .inl i), (3, .inl 0), (4, .inl j), (5, .inl n)] [.inl (-10 - 2)] (sw_u σ 0 9 2) rfl ?_
              refine sw_ireturn k_X7_copy rfl rfl ?_
              exact Or.inr (Or.inr (Or.inl ⟨by omega, rfl, rfl⟩))
          · refine sw_blk k_X7_copy 2 70 [(7, .inr (.inr 15)), (6, .inr (.inr 21)), (0, .inr (.inr 0)), (1, .inl 3), (2, .inl i), (3, .inl 0), (4, .inl j), (5, .inl n)] [.inl 4, .inr (.inr 0)] σ rfl ?_
            refine sw_callV k_X7_copy rfl cV_X7_finding ml_X7_225 ⟨by decide, by decide⟩ 0 rfl rfl [.inl 4] [] rfl rfl (Nat.le_of_ble_eq_true rfl) 73 rfl (sp_finding σ 4) (fun r29 σ30 hq31 => ?_)
            obtain ⟨rfl, rfl⟩ := hq31
            refine sw_blk k_X7_copy 0 73 [(7, .inr (.inr 15)), (6, .inr (.inr 21)), (0, .inr (.inr 0)), (1, .inl 3), (2, .inl i), (3, .inl 0), (4, .inl j), (5, .inl n)] [.inl (-10 - 4)] (sw_u σ 0 9 4) rfl ?_
            refine sw_ireturn k_X7_copy rfl rfl ?_
            exact Or.inr (Or.inl ⟨by omega, rfl, rfl⟩)
        · refine sw_blk k_X7_copy 2 51 [(7, .inr (.inr 15)), (6, .inr (.inr 21)), (0, .inr (.inr 0)), (1, .inl 3), (2, .inl i), (3, .inl 0), (4, .inl j), (5, .inl n)] [.inl 1, .inr (.inr 0)] σ rfl ?_
          refine sw_callV k_X7_copy rfl cV_X7_finding ml_X7_225 ⟨by decide, by decide⟩ 0 rfl rfl [.inl 1] [] rfl rfl (Nat.le_of_ble_eq_true rfl) 54 rfl (sp_finding σ 1) (fun r32 σ33 hq34 => ?_)
          obtain ⟨rfl, rfl⟩ := hq34
          refine sw_blk k_X7_copy 0 54 [(7, .inr (.inr 15)), (6, .inr (.inr 21)), (0, .inr (.inr 0)), (1, .inl 3), (2, .inl i), (3, .inl 0), (4, .inl j), (5, .inl n)] [.inl (-10 - 1)] (sw_u σ 0 9 1) rfl ?_
          refine sw_ireturn k_X7_copy rfl rfl ?_
          exact Or.inl ⟨by omega, rfl, rfl⟩
    · exact absurd (by decide) p5
  · exact absurd (by decide) p1
theorem cc_copy31 (σ : sw_S) (hσ : sw_gs σ) (hs0 : 0 ≤ σ 21 3) (hs1 : σ 21 3 ≤ 60) (ht0 : 0 ≤ σ 17 3) (ht1 : σ 17 3 ≤ 60) (i j n : Int) (gi : sw_g i) (gj : sw_g j) (gn : sw_g n) : sw_Con sw_ly sw_rho M_X7_copy [.inr (.inr 0), .inl 3, .inl i, .inl 1, .inl j, .inl n] σ (fun r σ' => ((¬ σ 21 1 = 0 ∨ ¬ σ 17 1 = 0) ∧ r = some (.inl (-10 - 1)) ∧ sw_u σ 0 9 1 = σ') ∨ ((¬ (¬ σ 21 1 = 0 ∨ ¬ σ 17 1 = 0) ∧ ¬ σ 21 2 = σ 17 2) ∧ r = some (.inl (-10 - 4)) ∧ sw_u σ 0 9 4 = σ') ∨ ((¬ (¬ σ 21 1 = 0 ∨ ¬ σ 17 1 = 0) ∧ σ 21 2 = σ 17 2 ∧ ¬ ((0 ≤ i ∧ 0 ≤ n ∧ i ≤ σ 21 3 - n) ∧ (0 ≤ j ∧ 0 ≤ n ∧ j ≤ σ 17 3 - n))) ∧ r = some (.inl (-10 - 2)) ∧ sw_u σ 0 9 2 = σ') ∨ ((¬ (¬ σ 21 1 = 0 ∨ ¬ σ 17 1 = 0) ∧ σ 21 2 = σ 17 2 ∧ ((0 ≤ i ∧ 0 ≤ n ∧ i ≤ σ 21 3 - n) ∧ (0 ≤ j ∧ 0 ≤ n ∧ j ≤ σ 17 3 - n))) ∧ r = some (.inl 1) ∧ sw_cp σ 22 i 18 j n = σ')) := by
  refine sw_con (by decide) (Nat.le_of_ble_eq_true rfl) ?_
  refine sw_blk k_X7_copy 1 1 [(0, .inr (.inr 0)), (1, .inl 3), (2, .inl i), (3, .inl 1), (4, .inl j), (5, .inl n)] [.inl 3] σ rfl ?_
  refine sw_callS k_X7_copy rfl cS_X7_isSheet ml_X7_219 ⟨by decide, by decide⟩ [.inl 3] [] rfl rfl (Nat.le_of_ble_eq_true rfl) 4 rfl (sp_isSheet σ 3 (by decide)) (fun r2 σ3 hq4 => ?_)
  obtain ⟨rfl, ⟨p1, rfl⟩ | ⟨p1, rfl⟩⟩ := hq4
  · refine sw_blk k_X7_copy 0 4 [(0, .inr (.inr 0)), (1, .inl 3), (2, .inl i), (3, .inl 1), (4, .inl j), (5, .inl n)] [.inl 1] σ rfl ?_
    refine sw_if_eq k_X7_copy rfl (by decide) 14 7 (by decide) rfl (fun c => absurd c (by decide)) (fun _ => ?_)
    refine sw_blk k_X7_copy 1 8 [(0, .inr (.inr 0)), (1, .inl 3), (2, .inl i), (3, .inl 1), (4, .inl j), (5, .inl n)] [.inl 1] σ rfl ?_
    refine sw_callS k_X7_copy rfl cS_X7_isSheet ml_X7_219 ⟨by decide, by decide⟩ [.inl 1] [] rfl rfl (Nat.le_of_ble_eq_true rfl) 11 rfl (sp_isSheet σ 1 (by decide)) (fun r6 σ7 hq8 => ?_)
    obtain ⟨rfl, ⟨p5, rfl⟩ | ⟨p5, rfl⟩⟩ := hq8
    · refine sw_blk k_X7_copy 0 11 [(0, .inr (.inr 0)), (1, .inl 3), (2, .inl i), (3, .inl 1), (4, .inl j), (5, .inl n)] [.inl 1] σ rfl ?_
      refine sw_if_ne k_X7_copy rfl (by decide) 17 14 (by decide) rfl (fun _ => ?_) (fun c => absurd c (by decide))
      refine sw_blk k_X7_copy 3 22 [(0, .inr (.inr 0)), (1, .inl 3), (2, .inl i), (3, .inl 1), (4, .inl j), (5, .inl n)] [.inl 3, .inr (.inr 14)] σ rfl ?_
      refine sw_aald k_X7_copy rfl (i := 14) (n := 4) (r := 21) rfl (by decide) (by decide) (by decide) rfl 23 rfl ?_
      refine sw_blk k_X7_copy 4 30 [(6, .inr (.inr 21)), (0, .inr (.inr 0)), (1, .inl 3), (2, .inl i), (3, .inl 1), (4, .inl j), (5, .inl n)] [.inl 1, .inr (.inr 14)] σ rfl ?_
      refine sw_aald k_X7_copy rfl (i := 14) (n := 4) (r := 17) rfl (by decide) (by decide) (by decide) rfl 31 rfl ?_
      refine sw_blk k_X7_copy 3 38 [(7, .inr (.inr 17)), (6, .inr (.inr 21)), (0, .inr (.inr 0)), (1, .inl 3), (2, .inl i), (3, .inl 1), (4, .inl j), (5, .inl n)] [.inl (σ 21 1)] σ rfl ?_
      refine sw_if_ne k_X7_copy rfl (hσ 21 _) 49 41 (by decide) rfl (fun c9 => ?_) (fun c9 => ?_)
      · refine sw_blk k_X7_copy 2 51 [(7, .inr (.inr 17)), (6, .inr (.inr 21)), (0, .inr (.inr 0)), (1, .inl 3), (2, .inl i), (3, .inl 1), (4, .inl j), (5, .inl n)] [.inl 1, .inr (.inr 0)] σ rfl ?_
        refine sw_callV k_X7_copy rfl cV_X7_finding ml_X7_225 ⟨by decide, by decide⟩ 0 rfl rfl [.inl 1] [] rfl rfl (Nat.le_of_ble_eq_true rfl) 54 rfl (sp_finding σ 1) (fun r10 σ11 hq12 => ?_)
        obtain ⟨rfl, rfl⟩ := hq12
        refine sw_blk k_X7_copy 0 54 [(7, .inr (.inr 17)), (6, .inr (.inr 21)), (0, .inr (.inr 0)), (1, .inl 3), (2, .inl i), (3, .inl 1), (4, .inl j), (5, .inl n)] [.inl (-10 - 1)] (sw_u σ 0 9 1) rfl ?_
        refine sw_ireturn k_X7_copy rfl rfl ?_
        exact Or.inl ⟨by omega, rfl, rfl⟩
      · refine sw_blk k_X7_copy 2 46 [(7, .inr (.inr 17)), (6, .inr (.inr 21)), (0, .inr (.inr 0)), (1, .inl 3), (2, .inl i), (3, .inl 1), (4, .inl j), (5, .inl n)] [.inl (σ 17 1)] σ rfl ?_
        refine sw_if_eq k_X7_copy rfl (hσ 17 _) 55 49 (by decide) rfl (fun c13 => ?_) (fun c13 => ?_)
        · refine sw_blk k_X7_copy 4 65 [(7, .inr (.inr 17)), (6, .inr (.inr 21)), (0, .inr (.inr 0)), (1, .inl 3), (2, .inl i), (3, .inl 1), (4, .inl j), (5, .inl n)] [.inl (σ 17 2), .inl (σ 21 2)] σ rfl ?_
          refine sw_icmp_eq k_X7_copy rfl (hσ 21 _) (hσ 17 _) 74 68 (by decide) rfl (fun c14 => ?_) (fun c14 => ?_)
          · refine sw_blk k_X7_copy 3 79 [(7, .inr (.inr 17)), (6, .inr (.inr 21)), (0, .inr (.inr 0)), (1, .inl 3), (2, .inl i), (3, .inl 1), (4, .inl j), (5, .inl n)] [.inl n, .inl i, .inr (.inr 21)] σ rfl ?_
            refine sw_callV k_X7_copy rfl cV_X4_hasItems ml_X7_251 ⟨by decide, by decide⟩ 21 rfl rfl [.inl i, .inl n] [] rfl rfl (Nat.le_of_ble_eq_true rfl) 82 rfl (sp_hasItems3 σ i n (by omega) (by omega) hs0 hs1) (fun r16 σ17 hq18 => ?_)
            obtain ⟨rfl, ⟨p15, rfl⟩ | ⟨p15, rfl⟩⟩ := hq18
            · refine sw_blk k_X7_copy 0 82 [(7, .inr (.inr 17)), (6, .inr (.inr 21)), (0, .inr (.inr 0)), (1, .inl 3), (2, .inl i), (3, .inl 1), (4, .inl j), (5, .inl n)] [.inl 1] σ rfl ?_
              refine sw_if_eq k_X7_copy rfl (by decide) 97 85 (by decide) rfl (fun c => absurd c (by decide)) (fun _ => ?_)
              refine sw_blk k_X7_copy 3 91 [(7, .inr (.inr 17)), (6, .inr (.inr 21)), (0, .inr (.inr 0)), (1, .inl 3), (2, .inl i), (3, .inl 1), (4, .inl j), (5, .inl n)] [.inl n, .inl j, .inr (.inr 17)] σ rfl ?_
              refine sw_callV k_X7_copy rfl cV_X4_hasItems ml_X7_251 ⟨by decide, by decide⟩ 17 rfl rfl [.inl j, .inl n] [] rfl rfl (Nat.le_of_ble_eq_true rfl) 94 rfl (sp_hasItems1 σ j n (by omega) (by omega) ht0 ht1) (fun r20 σ21 hq22 => ?_)
              obtain ⟨rfl, ⟨p19, rfl⟩ | ⟨p19, rfl⟩⟩ := hq22
              · refine sw_blk k_X7_copy 0 94 [(7, .inr (.inr 17)), (6, .inr (.inr 21)), (0, .inr (.inr 0)), (1, .inl 3), (2, .inl i), (3, .inl 1), (4, .inl j), (5, .inl n)] [.inl 1] σ rfl ?_
                refine sw_if_ne k_X7_copy rfl (by decide) 103 97 (by decide) rfl (fun _ => ?_) (fun c => absurd c (by decide))
                refine sw_blk k_X7_copy 7 118 [(7, .inr (.inr 17)), (6, .inr (.inr 21)), (0, .inr (.inr 0)), (1, .inl 3), (2, .inl i), (3, .inl 1), (4, .inl j), (5, .inl n)] [.inl n, .inl j, .inr (.inr 18), .inl i, .inr (.inr 22)] σ rfl ?_
                refine sw_acopy k_X7_copy rfl (c1 := 22) (c2 := 18) (n1 := 60) (n2 := 60) rfl rfl (by omega) (by omega) (by omega) (by omega) (by omega) (by omega) (by omega) (by omega) 121 rfl ?_
                refine sw_blk k_X7_copy 1 122 [(7, .inr (.inr 17)), (6, .inr (.inr 21)), (0, .inr (.inr 0)), (1, .inl 3), (2, .inl i), (3, .inl 1), (4, .inl j), (5, .inl n)] [.inl 1] (sw_cp σ 22 i 18 j n) rfl ?_
                refine sw_ireturn k_X7_copy rfl rfl ?_
                exact Or.inr (Or.inr (Or.inr ⟨by omega, rfl, rfl⟩))
              · refine sw_blk k_X7_copy 0 94 [(7, .inr (.inr 17)), (6, .inr (.inr 21)), (0, .inr (.inr 0)), (1, .inl 3), (2, .inl i), (3, .inl 1), (4, .inl j), (5, .inl n)] [.inl 0] σ rfl ?_
                refine sw_if_ne k_X7_copy rfl (by decide) 103 97 (by decide) rfl (fun c => absurd (by decide) c) (fun _ => ?_)
                refine sw_blk k_X7_copy 2 99 [(7, .inr (.inr 17)), (6, .inr (.inr 21)), (0, .inr (.inr 0)), (1, .inl 3), (2, .inl i), (3, .inl 1), (4, .inl j), (5, .inl n)] [.inl 2, .inr (.inr 0)] σ rfl ?_
                refine sw_callV k_X7_copy rfl cV_X7_finding ml_X7_225 ⟨by decide, by decide⟩ 0 rfl rfl [.inl 2] [] rfl rfl (Nat.le_of_ble_eq_true rfl) 102 rfl (sp_finding σ 2) (fun r23 σ24 hq25 => ?_)
                obtain ⟨rfl, rfl⟩ := hq25
                refine sw_blk k_X7_copy 0 102 [(7, .inr (.inr 17)), (6, .inr (.inr 21)), (0, .inr (.inr 0)), (1, .inl 3), (2, .inl i), (3, .inl 1), (4, .inl j), (5, .inl n)] [.inl (-10 - 2)] (sw_u σ 0 9 2) rfl ?_
                refine sw_ireturn k_X7_copy rfl rfl ?_
                exact Or.inr (Or.inr (Or.inl ⟨by omega, rfl, rfl⟩))
            · refine sw_blk k_X7_copy 0 82 [(7, .inr (.inr 17)), (6, .inr (.inr 21)), (0, .inr (.inr 0)), (1, .inl 3), (2, .inl i), (3, .inl 1), (4, .inl j), (5, .inl n)] [.inl 0] σ rfl ?_
              refine sw_if_eq k_X7_copy rfl (by decide) 97 85 (by decide) rfl (fun _ => ?_) (fun c => absurd (by decide) c)
              refine sw_blk k_X7_copy 2 99 [(7, .inr (.inr 17)), (6, .inr (.inr 21)), (0, .inr (.inr 0)), (1, .inl 3), (2, .inl i), (3, .inl 1), (4, .inl j), (5, .inl n)] [.inl 2, .inr (.inr 0)] σ rfl ?_
              refine sw_callV k_X7_copy rfl cV_X7_finding ml_X7_225 ⟨by decide, by decide⟩ 0 rfl rfl [.inl 2] [] rfl rfl (Nat.le_of_ble_eq_true rfl) 102 rfl (sp_finding σ 2) (fun r26 σ27 hq28 => ?_)
              obtain ⟨rfl, rfl⟩ := hq28
              refine sw_blk k_X7_copy 0 102 [(7, .inr (.inr 17)), (6, .inr (.inr 21)), (0, .inr (.inr 0)), (1, .inl 3), (2, .inl i), (3, .inl 1), (4, .inl j), (5, .inl n)] [.inl (-10 - 2)] (sw_u σ 0 9 2) rfl ?_
              refine sw_ireturn k_X7_copy rfl rfl ?_
              exact Or.inr (Or.inr (Or.inl ⟨by omega, rfl, rfl⟩))
          · refine sw_blk k_X7_copy 2 70 [(7, .inr (.inr 17)), (6, .inr (.inr 21)), (0, .inr (.inr 0)), (1, .inl 3), (2, .inl i), (3, .inl 1), (4, .inl j), (5, .inl n)] [.inl 4, .inr (.inr 0)] σ rfl ?_
            refine sw_callV k_X7_copy rfl cV_X7_finding ml_X7_225 ⟨by decide, by decide⟩ 0 rfl rfl [.inl 4] [] rfl rfl (Nat.le_of_ble_eq_true rfl) 73 rfl (sp_finding σ 4) (fun r29 σ30 hq31 => ?_)
            obtain ⟨rfl, rfl⟩ := hq31
            refine sw_blk k_X7_copy 0 73 [(7, .inr (.inr 17)), (6, .inr (.inr 21)), (0, .inr (.inr 0)), (1, .inl 3), (2, .inl i), (3, .inl 1), (4, .inl j), (5, .inl n)] [.inl (-10 - 4)] (sw_u σ 0 9 4) rfl ?_
            refine sw_ireturn k_X7_copy rfl rfl ?_
            exact Or.inr (Or.inl ⟨by omega, rfl, rfl⟩)
        · refine sw_blk k_X7_copy 2 51 [(7, .inr (.inr 17)), (6, .inr (.inr 21)), (0, .inr (.inr 0)), (1, .inl 3), (2, .inl i), (3, .inl 1), (4, .inl j), (5, .inl n)] [.inl 1, .inr (.inr 0)] σ rfl ?_
          refine sw_callV k_X7_copy rfl cV_X7_finding ml_X7_225 ⟨by decide, by decide⟩ 0 rfl rfl [.inl 1] [] rfl rfl (Nat.le_of_ble_eq_true rfl) 54 rfl (sp_finding σ 1) (fun r32 σ33 hq34 => ?_)
          obtain ⟨rfl, rfl⟩ := hq34
          refine sw_blk k_X7_copy 0 54 [(7, .inr (.inr 17)), (6, .inr (.inr 21)), (0, .inr (.inr 0)), (1, .inl 3), (2, .inl i), (3, .inl 1), (4, .inl j), (5, .inl n)] [.inl (-10 - 1)] (sw_u σ 0 9 1) rfl ?_
          refine sw_ireturn k_X7_copy rfl rfl ?_
          exact Or.inl ⟨by omega, rfl, rfl⟩
    · exact absurd (by decide) p5
  · exact absurd (by decide) p1
theorem cc_copy32 (σ : sw_S) (hσ : sw_gs σ) (hs0 : 0 ≤ σ 21 3) (hs1 : σ 21 3 ≤ 60) (ht0 : 0 ≤ σ 19 3) (ht1 : σ 19 3 ≤ 60) (i j n : Int) (gi : sw_g i) (gj : sw_g j) (gn : sw_g n) : sw_Con sw_ly sw_rho M_X7_copy [.inr (.inr 0), .inl 3, .inl i, .inl 2, .inl j, .inl n] σ (fun r σ' => ((¬ σ 21 1 = 0 ∨ ¬ σ 19 1 = 0) ∧ r = some (.inl (-10 - 1)) ∧ sw_u σ 0 9 1 = σ') ∨ ((¬ (¬ σ 21 1 = 0 ∨ ¬ σ 19 1 = 0) ∧ ¬ σ 21 2 = σ 19 2) ∧ r = some (.inl (-10 - 4)) ∧ sw_u σ 0 9 4 = σ') ∨ ((¬ (¬ σ 21 1 = 0 ∨ ¬ σ 19 1 = 0) ∧ σ 21 2 = σ 19 2 ∧ ¬ ((0 ≤ i ∧ 0 ≤ n ∧ i ≤ σ 21 3 - n) ∧ (0 ≤ j ∧ 0 ≤ n ∧ j ≤ σ 19 3 - n))) ∧ r = some (.inl (-10 - 2)) ∧ sw_u σ 0 9 2 = σ') ∨ ((¬ (¬ σ 21 1 = 0 ∨ ¬ σ 19 1 = 0) ∧ σ 21 2 = σ 19 2 ∧ ((0 ≤ i ∧ 0 ≤ n ∧ i ≤ σ 21 3 - n) ∧ (0 ≤ j ∧ 0 ≤ n ∧ j ≤ σ 19 3 - n))) ∧ r = some (.inl 1) ∧ sw_cp σ 22 i 20 j n = σ')) := by
  refine sw_con (by decide) (Nat.le_of_ble_eq_true rfl) ?_
  refine sw_blk k_X7_copy 1 1 [(0, .inr (.inr 0)), (1, .inl 3), (2, .inl i), (3, .inl 2), (4, .inl j), (5, .inl n)] [.inl 3] σ rfl ?_
  refine sw_callS k_X7_copy rfl cS_X7_isSheet ml_X7_219 ⟨by decide, by decide⟩ [.inl 3] [] rfl rfl (Nat.le_of_ble_eq_true rfl) 4 rfl (sp_isSheet σ 3 (by decide)) (fun r2 σ3 hq4 => ?_)
  obtain ⟨rfl, ⟨p1, rfl⟩ | ⟨p1, rfl⟩⟩ := hq4
  · refine sw_blk k_X7_copy 0 4 [(0, .inr (.inr 0)), (1, .inl 3), (2, .inl i), (3, .inl 2), (4, .inl j), (5, .inl n)] [.inl 1] σ rfl ?_
    refine sw_if_eq k_X7_copy rfl (by decide) 14 7 (by decide) rfl (fun c => absurd c (by decide)) (fun _ => ?_)
    refine sw_blk k_X7_copy 1 8 [(0, .inr (.inr 0)), (1, .inl 3), (2, .inl i), (3, .inl 2), (4, .inl j), (5, .inl n)] [.inl 2] σ rfl ?_
    refine sw_callS k_X7_copy rfl cS_X7_isSheet ml_X7_219 ⟨by decide, by decide⟩ [.inl 2] [] rfl rfl (Nat.le_of_ble_eq_true rfl) 11 rfl (sp_isSheet σ 2 (by decide)) (fun r6 σ7 hq8 => ?_)
    obtain ⟨rfl, ⟨p5, rfl⟩ | ⟨p5, rfl⟩⟩ := hq8
    · refine sw_blk k_X7_copy 0 11 [(0, .inr (.inr 0)), (1, .inl 3), (2, .inl i), (3, .inl 2), (4, .inl j), (5, .inl n)] [.inl 1] σ rfl ?_
      refine sw_if_ne k_X7_copy rfl (by decide) 17 14 (by decide) rfl (fun _ => ?_) (fun c => absurd c (by decide))
      refine sw_blk k_X7_copy 3 22 [(0, .inr (.inr 0)), (1, .inl 3), (2, .inl i), (3, .inl 2), (4, .inl j), (5, .inl n)] [.inl 3, .inr (.inr 14)] σ rfl ?_
      refine sw_aald k_X7_copy rfl (i := 14) (n := 4) (r := 21) rfl (by decide) (by decide) (by decide) rfl 23 rfl ?_
      refine sw_blk k_X7_copy 4 30 [(6, .inr (.inr 21)), (0, .inr (.inr 0)), (1, .inl 3), (2, .inl i), (3, .inl 2), (4, .inl j), (5, .inl n)] [.inl 2, .inr (.inr 14)] σ rfl ?_
      refine sw_aald k_X7_copy rfl (i := 14) (n := 4) (r := 19) rfl (by decide) (by decide) (by decide) rfl 31 rfl ?_
      refine sw_blk k_X7_copy 3 38 [(7, .inr (.inr 19)), (6, .inr (.inr 21)), (0, .inr (.inr 0)), (1, .inl 3), (2, .inl i), (3, .inl 2), (4, .inl j), (5, .inl n)] [.inl (σ 21 1)] σ rfl ?_
      refine sw_if_ne k_X7_copy rfl (hσ 21 _) 49 41 (by decide) rfl (fun c9 => ?_) (fun c9 => ?_)
      · refine sw_blk k_X7_copy 2 51 [(7, .inr (.inr 19)), (6, .inr (.inr 21)), (0, .inr (.inr 0)), (1, .inl 3), (2, .inl i), (3, .inl 2), (4, .inl j), (5, .inl n)] [.inl 1, .inr (.inr 0)] σ rfl ?_
        refine sw_callV k_X7_copy rfl cV_X7_finding ml_X7_225 ⟨by decide, by decide⟩ 0 rfl rfl [.inl 1] [] rfl rfl (Nat.le_of_ble_eq_true rfl) 54 rfl (sp_finding σ 1) (fun r10 σ11 hq12 => ?_)
        obtain ⟨rfl, rfl⟩ := hq12
        refine sw_blk k_X7_copy 0 54 [(7, .inr (.inr 19)), (6, .inr (.inr 21)), (0, .inr (.inr 0)), (1, .inl 3), (2, .inl i), (3, .inl 2), (4, .inl j), (5, .inl n)] [.inl (-10 - 1)] (sw_u σ 0 9 1) rfl ?_
        refine sw_ireturn k_X7_copy rfl rfl ?_
        exact Or.inl ⟨by omega, rfl, rfl⟩
      · refine sw_blk k_X7_copy 2 46 [(7, .inr (.inr 19)), (6, .inr (.inr 21)), (0, .inr (.inr 0)), (1, .inl 3), (2, .inl i), (3, .inl 2), (4, .inl j), (5, .inl n)] [.inl (σ 19 1)] σ rfl ?_
        refine sw_if_eq k_X7_copy rfl (hσ 19 _) 55 49 (by decide) rfl (fun c13 => ?_) (fun c13 => ?_)
        · refine sw_blk k_X7_copy 4 65 [(7, .inr (.inr 19)), (6, .inr (.inr 21)), (0, .inr (.inr 0)), (1, .inl 3), (2, .inl i), (3, .inl 2), (4, .inl j), (5, .inl n)] [.inl (σ 19 2), .inl (σ 21 2)] σ rfl ?_
          refine sw_icmp_eq k_X7_copy rfl (hσ 21 _) (hσ 19 _) 74 68 (by decide) rfl (fun c14 => ?_) (fun c14 => ?_)
          · refine sw_blk k_X7_copy 3 79 [(7, .inr (.inr 19)), (6, .inr (.inr 21)), (0, .inr (.inr 0)), (1, .inl 3), (2, .inl i), (3, .inl 2), (4, .inl j), (5, .inl n)] [.inl n, .inl i, .inr (.inr 21)] σ rfl ?_
            refine sw_callV k_X7_copy rfl cV_X4_hasItems ml_X7_251 ⟨by decide, by decide⟩ 21 rfl rfl [.inl i, .inl n] [] rfl rfl (Nat.le_of_ble_eq_true rfl) 82 rfl (sp_hasItems3 σ i n (by omega) (by omega) hs0 hs1) (fun r16 σ17 hq18 => ?_)
            obtain ⟨rfl, ⟨p15, rfl⟩ | ⟨p15, rfl⟩⟩ := hq18
            · refine sw_blk k_X7_copy 0 82 [(7, .inr (.inr 19)), (6, .inr (.inr 21)), (0, .inr (.inr 0)), (1, .inl 3), (2, .inl i), (3, .inl 2), (4, .inl j), (5, .inl n)] [.inl 1] σ rfl ?_
              refine sw_if_eq k_X7_copy rfl (by decide) 97 85 (by decide) rfl (fun c => absurd c (by decide)) (fun _ => ?_)
              refine sw_blk k_X7_copy 3 91 [(7, .inr (.inr 19)), (6, .inr (.inr 21)), (0, .inr (.inr 0)), (1, .inl 3), (2, .inl i), (3, .inl 2), (4, .inl j), (5, .inl n)] [.inl n, .inl j, .inr (.inr 19)] σ rfl ?_
              refine sw_callV k_X7_copy rfl cV_X4_hasItems ml_X7_251 ⟨by decide, by decide⟩ 19 rfl rfl [.inl j, .inl n] [] rfl rfl (Nat.le_of_ble_eq_true rfl) 94 rfl (sp_hasItems2 σ j n (by omega) (by omega) ht0 ht1) (fun r20 σ21 hq22 => ?_)
              obtain ⟨rfl, ⟨p19, rfl⟩ | ⟨p19, rfl⟩⟩ := hq22
              · refine sw_blk k_X7_copy 0 94 [(7, .inr (.inr 19)), (6, .inr (.inr 21)), (0, .inr (.inr 0)), (1, .inl 3), (2, .inl i), (3, .inl 2), (4, .inl j), (5, .inl n)] [.inl 1] σ rfl ?_
                refine sw_if_ne k_X7_copy rfl (by decide) 103 97 (by decide) rfl (fun _ => ?_) (fun c => absurd c (by decide))
                refine sw_blk k_X7_copy 7 118 [(7, .inr (.inr 19)), (6, .inr (.inr 21)), (0, .inr (.inr 0)), (1, .inl 3), (2, .inl i), (3, .inl 2), (4, .inl j), (5, .inl n)] [.inl n, .inl j, .inr (.inr 20), .inl i, .inr (.inr 22)] σ rfl ?_
                refine sw_acopy k_X7_copy rfl (c1 := 22) (c2 := 20) (n1 := 60) (n2 := 60) rfl rfl (by omega) (by omega) (by omega) (by omega) (by omega) (by omega) (by omega) (by omega) 121 rfl ?_
                refine sw_blk k_X7_copy 1 122 [(7, .inr (.inr 19)), (6, .inr (.inr 21)), (0, .inr (.inr 0)), (1, .inl 3), (2, .inl i), (3, .inl 2), (4, .inl j), (5, .inl n)] [.inl 1] (sw_cp σ 22 i 20 j n) rfl ?_
                refine sw_ireturn k_X7_copy rfl rfl ?_
                exact Or.inr (Or.inr (Or.inr ⟨by omega, rfl, rfl⟩))
              · refine sw_blk k_X7_copy 0 94 [(7, .inr (.inr 19)), (6, .inr (.inr 21)), (0, .inr (.inr 0)), (1, .inl 3), (2, .inl i), (3, .inl 2), (4, .inl j), (5, .inl n)] [.inl 0] σ rfl ?_
                refine sw_if_ne k_X7_copy rfl (by decide) 103 97 (by decide) rfl (fun c => absurd (by decide) c) (fun _ => ?_)
                refine sw_blk k_X7_copy 2 99 [(7, .inr (.inr 19)), (6, .inr (.inr 21)), (0, .inr (.inr 0)), (1, .inl 3), (2, .inl i), (3, .inl 2), (4, .inl j), (5, .inl n)] [.inl 2, .inr (.inr 0)] σ rfl ?_
                refine sw_callV k_X7_copy rfl cV_X7_finding ml_X7_225 ⟨by decide, by decide⟩ 0 rfl rfl [.inl 2] [] rfl rfl (Nat.le_of_ble_eq_true rfl) 102 rfl (sp_finding σ 2) (fun r23 σ24 hq25 => ?_)
                obtain ⟨rfl, rfl⟩ := hq25
                refine sw_blk k_X7_copy 0 102 [(7, .inr (.inr 19)), (6, .inr (.inr 21)), (0, .inr (.inr 0)), (1, .inl 3), (2, .inl i), (3, .inl 2), (4, .inl j), (5, .inl n)] [.inl (-10 - 2)] (sw_u σ 0 9 2) rfl ?_
                refine sw_ireturn k_X7_copy rfl rfl ?_
                exact Or.inr (Or.inr (Or.inl ⟨by omega, rfl, rfl⟩))
            · refine sw_blk k_X7_copy 0 82 [(7, .inr (.inr 19)), (6, .inr (.inr 21)), (0, .inr (.inr 0)), (1, .inl 3), (2, .inl i), (3, .inl 2), (4, .inl j), (5, .inl n)] [.inl 0] σ rfl ?_
              refine sw_if_eq k_X7_copy rfl (by decide) 97 85 (by decide) rfl (fun _ => ?_) (fun c => absurd (by decide) c)
              refine sw_blk k_X7_copy 2 99 [(7, .inr (.inr 19)), (6, .inr (.inr 21)), (0, .inr (.inr 0)), (1, .inl 3), (2, .inl i), (3, .inl 2), (4, .inl j), (5, .inl n)] [.inl 2, .inr (.inr 0)] σ rfl ?_
              refine sw_callV k_X7_copy rfl cV_X7_finding ml_X7_225 ⟨by decide, by decide⟩ 0 rfl rfl [.inl 2] [] rfl rfl (Nat.le_of_ble_eq_true rfl) 102 rfl (sp_finding σ 2) (fun r26 σ27 hq28 => ?_)
              obtain ⟨rfl, rfl⟩ := hq28
              refine sw_blk k_X7_copy 0 102 [(7, .inr (.inr 19)), (6, .inr (.inr 21)), (0, .inr (.inr 0)), (1, .inl 3), (2, .inl i), (3, .inl 2), (4, .inl j), (5, .inl n)] [.inl (-10 - 2)] (sw_u σ 0 9 2) rfl ?_
              refine sw_ireturn k_X7_copy rfl rfl ?_
              exact Or.inr (Or.inr (Or.inl ⟨by omega, rfl, rfl⟩))
          · refine sw_blk k_X7_copy 2 70 [(7, .inr (.inr 19)), (6, .inr (.inr 21)), (0, .inr (.inr 0)), (1, .inl 3), (2, .inl i), (3, .inl 2), (4, .inl j), (5, .inl n)] [.inl 4, .inr (.inr 0)] σ rfl ?_
            refine sw_callV k_X7_copy rfl cV_X7_finding ml_X7_225 ⟨by decide, by decide⟩ 0 rfl rfl [.inl 4] [] rfl rfl (Nat.le_of_ble_eq_true rfl) 73 rfl (sp_finding σ 4) (fun r29 σ30 hq31 => ?_)
            obtain ⟨rfl, rfl⟩ := hq31
            refine sw_blk k_X7_copy 0 73 [(7, .inr (.inr 19)), (6, .inr (.inr 21)), (0, .inr (.inr 0)), (1, .inl 3), (2, .inl i), (3, .inl 2), (4, .inl j), (5, .inl n)] [.inl (-10 - 4)] (sw_u σ 0 9 4) rfl ?_
            refine sw_ireturn k_X7_copy rfl rfl ?_
            exact Or.inr (Or.inl ⟨by omega, rfl, rfl⟩)
        · refine sw_blk k_X7_copy 2 51 [(7, .inr (.inr 19)), (6, .inr (.inr 21)), (0, .inr (.inr 0)), (1, .inl 3), (2, .inl i), (3, .inl 2), (4, .inl j), (5, .inl n)] [.inl 1, .inr (.inr 0)] σ rfl ?_
          refine sw_callV k_X7_copy rfl cV_X7_finding ml_X7_225 ⟨by decide, by decide⟩ 0 rfl rfl [.inl 1] [] rfl rfl (Nat.le_of_ble_eq_true rfl) 54 rfl (sp_finding σ 1) (fun r32 σ33 hq34 => ?_)
          obtain ⟨rfl, rfl⟩ := hq34
          refine sw_blk k_X7_copy 0 54 [(7, .inr (.inr 19)), (6, .inr (.inr 21)), (0, .inr (.inr 0)), (1, .inl 3), (2, .inl i), (3, .inl 2), (4, .inl j), (5, .inl n)] [.inl (-10 - 1)] (sw_u σ 0 9 1) rfl ?_
          refine sw_ireturn k_X7_copy rfl rfl ?_
          exact Or.inl ⟨by omega, rfl, rfl⟩
    · exact absurd (by decide) p5
  · exact absurd (by decide) p1
theorem cc_copy33 (σ : sw_S) (hσ : sw_gs σ) (hs0 : 0 ≤ σ 21 3) (hs1 : σ 21 3 ≤ 60) (ht0 : 0 ≤ σ 21 3) (ht1 : σ 21 3 ≤ 60) (i j n : Int) (gi : sw_g i) (gj : sw_g j) (gn : sw_g n) : sw_Con sw_ly sw_rho M_X7_copy [.inr (.inr 0), .inl 3, .inl i, .inl 3, .inl j, .inl n] σ (fun r σ' => ((¬ σ 21 1 = 0 ∨ ¬ σ 21 1 = 0) ∧ r = some (.inl (-10 - 1)) ∧ sw_u σ 0 9 1 = σ') ∨ ((¬ (¬ σ 21 1 = 0 ∨ ¬ σ 21 1 = 0) ∧ ¬ σ 21 2 = σ 21 2) ∧ r = some (.inl (-10 - 4)) ∧ sw_u σ 0 9 4 = σ') ∨ ((¬ (¬ σ 21 1 = 0 ∨ ¬ σ 21 1 = 0) ∧ σ 21 2 = σ 21 2 ∧ ¬ ((0 ≤ i ∧ 0 ≤ n ∧ i ≤ σ 21 3 - n) ∧ (0 ≤ j ∧ 0 ≤ n ∧ j ≤ σ 21 3 - n))) ∧ r = some (.inl (-10 - 2)) ∧ sw_u σ 0 9 2 = σ') ∨ ((¬ (¬ σ 21 1 = 0 ∨ ¬ σ 21 1 = 0) ∧ σ 21 2 = σ 21 2 ∧ ((0 ≤ i ∧ 0 ≤ n ∧ i ≤ σ 21 3 - n) ∧ (0 ≤ j ∧ 0 ≤ n ∧ j ≤ σ 21 3 - n))) ∧ r = some (.inl 1) ∧ sw_cp σ 22 i 22 j n = σ')) := by
  refine sw_con (by decide) (Nat.le_of_ble_eq_true rfl) ?_
  refine sw_blk k_X7_copy 1 1 [(0, .inr (.inr 0)), (1, .inl 3), (2, .inl i), (3, .inl 3), (4, .inl j), (5, .inl n)] [.inl 3] σ rfl ?_
  refine sw_callS k_X7_copy rfl cS_X7_isSheet ml_X7_219 ⟨by decide, by decide⟩ [.inl 3] [] rfl rfl (Nat.le_of_ble_eq_true rfl) 4 rfl (sp_isSheet σ 3 (by decide)) (fun r2 σ3 hq4 => ?_)
  obtain ⟨rfl, ⟨p1, rfl⟩ | ⟨p1, rfl⟩⟩ := hq4
  · refine sw_blk k_X7_copy 0 4 [(0, .inr (.inr 0)), (1, .inl 3), (2, .inl i), (3, .inl 3), (4, .inl j), (5, .inl n)] [.inl 1] σ rfl ?_
    refine sw_if_eq k_X7_copy rfl (by decide) 14 7 (by decide) rfl (fun c => absurd c (by decide)) (fun _ => ?_)
    refine sw_blk k_X7_copy 1 8 [(0, .inr (.inr 0)), (1, .inl 3), (2, .inl i), (3, .inl 3), (4, .inl j), (5, .inl n)] [.inl 3] σ rfl ?_
    refine sw_callS k_X7_copy rfl cS_X7_isSheet ml_X7_219 ⟨by decide, by decide⟩ [.inl 3] [] rfl rfl (Nat.le_of_ble_eq_true rfl) 11 rfl (sp_isSheet σ 3 (by decide)) (fun r6 σ7 hq8 => ?_)
    obtain ⟨rfl, ⟨p5, rfl⟩ | ⟨p5, rfl⟩⟩ := hq8
    · refine sw_blk k_X7_copy 0 11 [(0, .inr (.inr 0)), (1, .inl 3), (2, .inl i), (3, .inl 3), (4, .inl j), (5, .inl n)] [.inl 1] σ rfl ?_
      refine sw_if_ne k_X7_copy rfl (by decide) 17 14 (by decide) rfl (fun _ => ?_) (fun c => absurd c (by decide))
      refine sw_blk k_X7_copy 3 22 [(0, .inr (.inr 0)), (1, .inl 3), (2, .inl i), (3, .inl 3), (4, .inl j), (5, .inl n)] [.inl 3, .inr (.inr 14)] σ rfl ?_
      refine sw_aald k_X7_copy rfl (i := 14) (n := 4) (r := 21) rfl (by decide) (by decide) (by decide) rfl 23 rfl ?_
      refine sw_blk k_X7_copy 4 30 [(6, .inr (.inr 21)), (0, .inr (.inr 0)), (1, .inl 3), (2, .inl i), (3, .inl 3), (4, .inl j), (5, .inl n)] [.inl 3, .inr (.inr 14)] σ rfl ?_
      refine sw_aald k_X7_copy rfl (i := 14) (n := 4) (r := 21) rfl (by decide) (by decide) (by decide) rfl 31 rfl ?_
      refine sw_blk k_X7_copy 3 38 [(7, .inr (.inr 21)), (6, .inr (.inr 21)), (0, .inr (.inr 0)), (1, .inl 3), (2, .inl i), (3, .inl 3), (4, .inl j), (5, .inl n)] [.inl (σ 21 1)] σ rfl ?_
      refine sw_if_ne k_X7_copy rfl (hσ 21 _) 49 41 (by decide) rfl (fun c9 => ?_) (fun c9 => ?_)
      · refine sw_blk k_X7_copy 2 51 [(7, .inr (.inr 21)), (6, .inr (.inr 21)), (0, .inr (.inr 0)), (1, .inl 3), (2, .inl i), (3, .inl 3), (4, .inl j), (5, .inl n)] [.inl 1, .inr (.inr 0)] σ rfl ?_
        refine sw_callV k_X7_copy rfl cV_X7_finding ml_X7_225 ⟨by decide, by decide⟩ 0 rfl rfl [.inl 1] [] rfl rfl (Nat.le_of_ble_eq_true rfl) 54 rfl (sp_finding σ 1) (fun r10 σ11 hq12 => ?_)
        obtain ⟨rfl, rfl⟩ := hq12
        refine sw_blk k_X7_copy 0 54 [(7, .inr (.inr 21)), (6, .inr (.inr 21)), (0, .inr (.inr 0)), (1, .inl 3), (2, .inl i), (3, .inl 3), (4, .inl j), (5, .inl n)] [.inl (-10 - 1)] (sw_u σ 0 9 1) rfl ?_
        refine sw_ireturn k_X7_copy rfl rfl ?_
        exact Or.inl ⟨by omega, rfl, rfl⟩
      · refine sw_blk k_X7_copy 2 46 [(7, .inr (.inr 21)), (6, .inr (.inr 21)), (0, .inr (.inr 0)), (1, .inl 3), (2, .inl i), (3, .inl 3), (4, .inl j), (5, .inl n)] [.inl (σ 21 1)] σ rfl ?_
        refine sw_if_eq k_X7_copy rfl (hσ 21 _) 55 49 (by decide) rfl (fun c13 => ?_) (fun c13 => ?_)
        · refine sw_blk k_X7_copy 4 65 [(7, .inr (.inr 21)), (6, .inr (.inr 21)), (0, .inr (.inr 0)), (1, .inl 3), (2, .inl i), (3, .inl 3), (4, .inl j), (5, .inl n)] [.inl (σ 21 2), .inl (σ 21 2)] σ rfl ?_
          refine sw_icmp_eq k_X7_copy rfl (hσ 21 _) (hσ 21 _) 74 68 (by decide) rfl (fun c14 => ?_) (fun c14 => ?_)
          · refine sw_blk k_X7_copy 3 79 [(7, .inr (.inr 21)), (6, .inr (.inr 21)), (0, .inr (.inr 0)), (1, .inl 3), (2, .inl i), (3, .inl 3), (4, .inl j), (5, .inl n)] [.inl n, .inl i, .inr (.inr 21)] σ rfl ?_
            refine sw_callV k_X7_copy rfl cV_X4_hasItems ml_X7_251 ⟨by decide, by decide⟩ 21 rfl rfl [.inl i, .inl n] [] rfl rfl (Nat.le_of_ble_eq_true rfl) 82 rfl (sp_hasItems3 σ i n (by omega) (by omega) hs0 hs1) (fun r16 σ17 hq18 => ?_)
            obtain ⟨rfl, ⟨p15, rfl⟩ | ⟨p15, rfl⟩⟩ := hq18
            · refine sw_blk k_X7_copy 0 82 [(7, .inr (.inr 21)), (6, .inr (.inr 21)), (0, .inr (.inr 0)), (1, .inl 3), (2, .inl i), (3, .inl 3), (4, .inl j), (5, .inl n)] [.inl 1] σ rfl ?_
              refine sw_if_eq k_X7_copy rfl (by decide) 97 85 (by decide) rfl (fun c => absurd c (by decide)) (fun _ => ?_)
              refine sw_blk k_X7_copy 3 91 [(7, .inr (.inr 21)), (6, .inr (.inr 21)), (0, .inr (.inr 0)), (1, .inl 3), (2, .inl i), (3, .inl 3), (4, .inl j), (5, .inl n)] [.inl n, .inl j, .inr (.inr 21)] σ rfl ?_
              refine sw_callV k_X7_copy rfl cV_X4_hasItems ml_X7_251 ⟨by decide, by decide⟩ 21 rfl rfl [.inl j, .inl n] [] rfl rfl (Nat.le_of_ble_eq_true rfl) 94 rfl (sp_hasItems3 σ j n (by omega) (by omega) hs0 hs1) (fun r20 σ21 hq22 => ?_)
              obtain ⟨rfl, ⟨p19, rfl⟩ | ⟨p19, rfl⟩⟩ := hq22
              · refine sw_blk k_X7_copy 0 94 [(7, .inr (.inr 21)), (6, .inr (.inr 21)), (0, .inr (.inr 0)), (1, .inl 3), (2, .inl i), (3, .inl 3), (4, .inl j), (5, .inl n)] [.inl 1] σ rfl ?_
                refine sw_if_ne k_X7_copy rfl (by decide) 103 97 (by decide) rfl (fun _ => ?_) (fun c => absurd c (by decide))
                refine sw_blk k_X7_copy 7 118 [(7, .inr (.inr 21)), (6, .inr (.inr 21)), (0, .inr (.inr 0)), (1, .inl 3), (2, .inl i), (3, .inl 3), (4, .inl j), (5, .inl n)] [.inl n, .inl j, .inr (.inr 22), .inl i, .inr (.inr 22)] σ rfl ?_
                refine sw_acopy k_X7_copy rfl (c1 := 22) (c2 := 22) (n1 := 60) (n2 := 60) rfl rfl (by omega) (by omega) (by omega) (by omega) (by omega) (by omega) (by omega) (by omega) 121 rfl ?_
                refine sw_blk k_X7_copy 1 122 [(7, .inr (.inr 21)), (6, .inr (.inr 21)), (0, .inr (.inr 0)), (1, .inl 3), (2, .inl i), (3, .inl 3), (4, .inl j), (5, .inl n)] [.inl 1] (sw_cp σ 22 i 22 j n) rfl ?_
                refine sw_ireturn k_X7_copy rfl rfl ?_
                exact Or.inr (Or.inr (Or.inr ⟨by omega, rfl, rfl⟩))
              · refine sw_blk k_X7_copy 0 94 [(7, .inr (.inr 21)), (6, .inr (.inr 21)), (0, .inr (.inr 0)), (1, .inl 3), (2, .inl i), (3, .inl 3), (4, .inl j), (5, .inl n)] [.inl 0] σ rfl ?_
                refine sw_if_ne k_X7_copy rfl (by decide) 103 97 (by decide) rfl (fun c => absurd (by decide) c) (fun _ => ?_)
                refine sw_blk k_X7_copy 2 99 [(7, .inr (.inr 21)), (6, .inr (.inr 21)), (0, .inr (.inr 0)), (1, .inl 3), (2, .inl i), (3, .inl 3), (4, .inl j), (5, .inl n)] [.inl 2, .inr (.inr 0)] σ rfl ?_
                refine sw_callV k_X7_copy rfl cV_X7_finding ml_X7_225 ⟨by decide, by decide⟩ 0 rfl rfl [.inl 2] [] rfl rfl (Nat.le_of_ble_eq_true rfl) 102 rfl (sp_finding σ 2) (fun r23 σ24 hq25 => ?_)
                obtain ⟨rfl, rfl⟩ := hq25
                refine sw_blk k_X7_copy 0 102 [(7, .inr (.inr 21)), (6, .inr (.inr 21)), (0, .inr (.inr 0)), (1, .inl 3), (2, .inl i), (3, .inl 3), (4, .inl j), (5, .inl n)] [.inl (-10 - 2)] (sw_u σ 0 9 2) rfl ?_
                refine sw_ireturn k_X7_copy rfl rfl ?_
                exact Or.inr (Or.inr (Or.inl ⟨by omega, rfl, rfl⟩))
            · refine sw_blk k_X7_copy 0 82 [(7, .inr (.inr 21)), (6, .inr (.inr 21)), (0, .inr (.inr 0)), (1, .inl 3), (2, .inl i), (3, .inl 3), (4, .inl j), (5, .inl n)] [.inl 0] σ rfl ?_
              refine sw_if_eq k_X7_copy rfl (by decide) 97 85 (by decide) rfl (fun _ => ?_) (fun c => absurd (by decide) c)
              refine sw_blk k_X7_copy 2 99 [(7, .inr (.inr 21)), (6, .inr (.inr 21)), (0, .inr (.inr 0)), (1, .inl 3), (2, .inl i), (3, .inl 3), (4, .inl j), (5, .inl n)] [.inl 2, .inr (.inr 0)] σ rfl ?_
              refine sw_callV k_X7_copy rfl cV_X7_finding ml_X7_225 ⟨by decide, by decide⟩ 0 rfl rfl [.inl 2] [] rfl rfl (Nat.le_of_ble_eq_true rfl) 102 rfl (sp_finding σ 2) (fun r26 σ27 hq28 => ?_)
              obtain ⟨rfl, rfl⟩ := hq28
              refine sw_blk k_X7_copy 0 102 [(7, .inr (.inr 21)), (6, .inr (.inr 21)), (0, .inr (.inr 0)), (1, .inl 3), (2, .inl i), (3, .inl 3), (4, .inl j), (5, .inl n)] [.inl (-10 - 2)] (sw_u σ 0 9 2) rfl ?_
              refine sw_ireturn k_X7_copy rfl rfl ?_
              exact Or.inr (Or.inr (Or.inl ⟨by omega, rfl, rfl⟩))
          · refine sw_blk k_X7_copy 2 70 [(7, .inr (.inr 21)), (6, .inr (.inr 21)), (0, .inr (.inr 0)), (1, .inl 3), (2, .inl i), (3, .inl 3), (4, .inl j), (5, .inl n)] [.inl 4, .inr (.inr 0)] σ rfl ?_
            refine sw_callV k_X7_copy rfl cV_X7_finding ml_X7_225 ⟨by decide, by decide⟩ 0 rfl rfl [.inl 4] [] rfl rfl (Nat.le_of_ble_eq_true rfl) 73 rfl (sp_finding σ 4) (fun r29 σ30 hq31 => ?_)
            obtain ⟨rfl, rfl⟩ := hq31
            refine sw_blk k_X7_copy 0 73 [(7, .inr (.inr 21)), (6, .inr (.inr 21)), (0, .inr (.inr 0)), (1, .inl 3), (2, .inl i), (3, .inl 3), (4, .inl j), (5, .inl n)] [.inl (-10 - 4)] (sw_u σ 0 9 4) rfl ?_
            refine sw_ireturn k_X7_copy rfl rfl ?_
            exact Or.inr (Or.inl ⟨by omega, rfl, rfl⟩)
        · refine sw_blk k_X7_copy 2 51 [(7, .inr (.inr 21)), (6, .inr (.inr 21)), (0, .inr (.inr 0)), (1, .inl 3), (2, .inl i), (3, .inl 3), (4, .inl j), (5, .inl n)] [.inl 1, .inr (.inr 0)] σ rfl ?_
          refine sw_callV k_X7_copy rfl cV_X7_finding ml_X7_225 ⟨by decide, by decide⟩ 0 rfl rfl [.inl 1] [] rfl rfl (Nat.le_of_ble_eq_true rfl) 54 rfl (sp_finding σ 1) (fun r32 σ33 hq34 => ?_)
          obtain ⟨rfl, rfl⟩ := hq34
          refine sw_blk k_X7_copy 0 54 [(7, .inr (.inr 21)), (6, .inr (.inr 21)), (0, .inr (.inr 0)), (1, .inl 3), (2, .inl i), (3, .inl 3), (4, .inl j), (5, .inl n)] [.inl (-10 - 1)] (sw_u σ 0 9 1) rfl ?_
          refine sw_ireturn k_X7_copy rfl rfl ?_
          exact Or.inl ⟨by omega, rfl, rfl⟩
    · exact absurd (by decide) p5
  · exact absurd (by decide) p1
theorem cc_copyBS (σ : sw_S) (s i t j n : Int) (gs : sw_g s) (gi : sw_g i) (gt : sw_g t) (gj : sw_g j) (gn : sw_g n) (hbad : ¬ (0 ≤ s ∧ s ≤ 3)) : sw_Con sw_ly sw_rho M_X7_copy [.inr (.inr 0), .inl s, .inl i, .inl t, .inl j, .inl n] σ (fun r σ' => r = some (.inl (-2)) ∧ σ = σ') := by
  refine sw_con (by decide) (Nat.le_of_ble_eq_true rfl) ?_
  refine sw_blk k_X7_copy 1 1 [(0, .inr (.inr 0)), (1, .inl s), (2, .inl i), (3, .inl t), (4, .inl j), (5, .inl n)] [.inl s] σ rfl ?_
  refine sw_callS k_X7_copy rfl cS_X7_isSheet ml_X7_219 ⟨by decide, by decide⟩ [.inl s] [] rfl rfl (Nat.le_of_ble_eq_true rfl) 4 rfl (sp_isSheet σ s (by omega)) (fun r2 σ3 hq4 => ?_)
  obtain ⟨rfl, ⟨p1, rfl⟩ | ⟨p1, rfl⟩⟩ := hq4
  · exact absurd p1 hbad
  · refine sw_blk k_X7_copy 0 4 [(0, .inr (.inr 0)), (1, .inl s), (2, .inl i), (3, .inl t), (4, .inl j), (5, .inl n)] [.inl 0] σ rfl ?_
    refine sw_if_eq k_X7_copy rfl (by decide) 14 7 (by decide) rfl (fun _ => ?_) (fun c => absurd (by decide) c)
    refine sw_blk k_X7_copy 1 16 [(0, .inr (.inr 0)), (1, .inl s), (2, .inl i), (3, .inl t), (4, .inl j), (5, .inl n)] [.inl (-2)] σ rfl ?_
    refine sw_ireturn k_X7_copy rfl rfl ?_
    exact ⟨rfl, rfl⟩
theorem cc_copyBT (σ : sw_S) (s i t j n : Int) (gs : sw_g s) (gi : sw_g i) (gt : sw_g t) (gj : sw_g j) (gn : sw_g n) (hbad : ¬ (0 ≤ t ∧ t ≤ 3)) : sw_Con sw_ly sw_rho M_X7_copy [.inr (.inr 0), .inl s, .inl i, .inl t, .inl j, .inl n] σ (fun r σ' => r = some (.inl (-2)) ∧ σ = σ') := by
  refine sw_con (by decide) (Nat.le_of_ble_eq_true rfl) ?_
  refine sw_blk k_X7_copy 1 1 [(0, .inr (.inr 0)), (1, .inl s), (2, .inl i), (3, .inl t), (4, .inl j), (5, .inl n)] [.inl s] σ rfl ?_
  refine sw_callS k_X7_copy rfl cS_X7_isSheet ml_X7_219 ⟨by decide, by decide⟩ [.inl s] [] rfl rfl (Nat.le_of_ble_eq_true rfl) 4 rfl (sp_isSheet σ s (by omega)) (fun r2 σ3 hq4 => ?_)
  obtain ⟨rfl, ⟨p1, rfl⟩ | ⟨p1, rfl⟩⟩ := hq4
  · refine sw_blk k_X7_copy 0 4 [(0, .inr (.inr 0)), (1, .inl s), (2, .inl i), (3, .inl t), (4, .inl j), (5, .inl n)] [.inl 1] σ rfl ?_
    refine sw_if_eq k_X7_copy rfl (by decide) 14 7 (by decide) rfl (fun c => absurd c (by decide)) (fun _ => ?_)
    refine sw_blk k_X7_copy 1 8 [(0, .inr (.inr 0)), (1, .inl s), (2, .inl i), (3, .inl t), (4, .inl j), (5, .inl n)] [.inl t] σ rfl ?_
    refine sw_callS k_X7_copy rfl cS_X7_isSheet ml_X7_219 ⟨by decide, by decide⟩ [.inl t] [] rfl rfl (Nat.le_of_ble_eq_true rfl) 11 rfl (sp_isSheet σ t (by omega)) (fun r6 σ7 hq8 => ?_)
    obtain ⟨rfl, ⟨p5, rfl⟩ | ⟨p5, rfl⟩⟩ := hq8
    · exact absurd p5 hbad
    · refine sw_blk k_X7_copy 0 11 [(0, .inr (.inr 0)), (1, .inl s), (2, .inl i), (3, .inl t), (4, .inl j), (5, .inl n)] [.inl 0] σ rfl ?_
      refine sw_if_ne k_X7_copy rfl (by decide) 17 14 (by decide) rfl (fun c => absurd (by decide) c) (fun _ => ?_)
      refine sw_blk k_X7_copy 1 16 [(0, .inr (.inr 0)), (1, .inl s), (2, .inl i), (3, .inl t), (4, .inl j), (5, .inl n)] [.inl (-2)] σ rfl ?_
      refine sw_ireturn k_X7_copy rfl rfl ?_
      exact ⟨rfl, rfl⟩
  · refine sw_blk k_X7_copy 0 4 [(0, .inr (.inr 0)), (1, .inl s), (2, .inl i), (3, .inl t), (4, .inl j), (5, .inl n)] [.inl 0] σ rfl ?_
    refine sw_if_eq k_X7_copy rfl (by decide) 14 7 (by decide) rfl (fun _ => ?_) (fun c => absurd (by decide) c)
    refine sw_blk k_X7_copy 1 16 [(0, .inr (.inr 0)), (1, .inl s), (2, .inl i), (3, .inl t), (4, .inl j), (5, .inl n)] [.inl (-2)] σ rfl ?_
    refine sw_ireturn k_X7_copy rfl rfl ?_
    exact ⟨rfl, rfl⟩
theorem lp_write0 (σ : sw_S) (hσ : sw_gs σ) (hs0 : 0 ≤ σ 15 3) (hs1 : σ 15 3 ≤ 60) (hfm : 0 ≤ σ 15 2 ∧ σ 15 2 ≤ 2) (h61 : 0 ≤ σ 6 1 ∧ σ 6 1 < 1000000) (K w : Int) (hK : 0 ≤ K ∧ K ≤ 40 ∧ K ≤ 60 ∧ K ≤ σ 6 1) (hK2 : K ≤ σ 15 3) (hw : 0 ≤ w ∧ w ≤ 2) (Q : Option sw_Vl → sw_S → Prop) (hQ : Q (some (.inl K)) (sw_pf σ 16 (fun j : Nat => sw_cv (σ 15 2) (σ 7 ((σ 6 1 - 1 - (K - 1 - (j : Int))) % 40 * 3 + w).toNat)) K.toNat)) : ∀ (n : Nat) (i : Nat), (i : Int) ≤ K → 61 - i < n → sw_E sw_ly sw_rho M_X7_write 61 [(5, .inl (i : Int)), (4, .inl K), (3, .inr (.inr 15)), (0, .inr (.inr 0)), (1, .inl 0), (2, .inl w)] [] (sw_pf σ 16 (fun j : Nat => sw_cv (σ 15 2) (σ 7 ((σ 6 1 - 1 - (K - 1 - (j : Int))) % 40 * 3 + w).toNat)) i) Q := by
  intro n
  induction n with
  | zero =>
    intro i hi hn
    omega
  | succ n ih =>
    intro i hi hn
    refine sw_blk k_X7_write 2 65 [(5, .inl (i : Int)), (4, .inl K), (3, .inr (.inr 15)), (0, .inr (.inr 0)), (1, .inl 0), (2, .inl w)] [.inl K, .inl (i : Int)] (sw_pf σ 16 (fun j : Nat => sw_cv (σ 15 2) (σ 7 ((σ 6 1 - 1 - (K - 1 - (j : Int))) % 40 * 3 + w).toNat)) i) rfl ?_
    refine sw_icmp_ge k_X7_write rfl (by omega) (by omega) 98 68 (by decide) rfl (fun c1 => ?_) (fun c1 => ?_)
    · refine sw_blk k_X7_write 1 100 [(5, .inl (i : Int)), (4, .inl K), (3, .inr (.inr 15)), (0, .inr (.inr 0)), (1, .inl 0), (2, .inl w)] [.inl K] (sw_pf σ 16 (fun j : Nat => sw_cv (σ 15 2) (σ 7 ((σ 6 1 - 1 - (K - 1 - (j : Int))) % 40 * 3 + w).toNat)) i) rfl ?_
      refine sw_ireturn k_X7_write rfl rfl ?_
      have e : K.toNat = i := by omega
      rw [e] at hQ
      exact hQ
    · refine sw_blk k_X7_write 11 86 [(5, .inl (i : Int)), (4, .inl K), (3, .inr (.inr 15)), (0, .inr (.inr 0)), (1, .inl 0), (2, .inl w)] [.inl w, .inl ((K - 1) - (i : Int)), .inr (.inr 6), .inl (i : Int), .inr (.inr 15)] (sw_pf σ 16 (fun j : Nat => sw_cv (σ 15 2) (σ 7 ((σ 6 1 - 1 - (K - 1 - (j : Int))) % 40 * 3 + w).toNat)) i) rfl ?_
      refine sw_callV k_X7_write rfl cV_X5_latest ml_X7_216 ⟨by decide, by decide⟩ 6 rfl rfl [.inl ((K - 1) - (i : Int)), .inl w] [.inl (i : Int), .inr (.inr 15)] rfl rfl (Nat.le_of_ble_eq_true rfl) 89 rfl (sp_latest (sw_pf σ 16 (fun j : Nat => sw_cv (σ 15 2) (σ 7 ((σ 6 1 - 1 - (K - 1 - (j : Int))) % 40 * 3 + w).toNat)) i) (K - 1 - (i : Int)) w (by omega) (by omega) (show K - 1 - (i : Int) < σ 6 1 by omega) h61.2) (fun r2 σ3 hq4 => ?_)
      obtain ⟨rfl, rfl⟩ := hq4
      refine sw_blk k_X7_write 0 89 [(5, .inl (i : Int)), (4, .inl K), (3, .inr (.inr 15)), (0, .inr (.inr 0)), (1, .inl 0), (2, .inl w)] [.inl (σ 7 ((σ 6 1 - 1 - (K - 1 - (i : Int))) % 40 * 3 + w).toNat), .inl (i : Int), .inr (.inr 15)] (sw_pf σ 16 (fun j : Nat => sw_cv (σ 15 2) (σ 7 ((σ 6 1 - 1 - (K - 1 - (j : Int))) % 40 * 3 + w).toNat)) i) rfl ?_
      refine sw_callV k_X7_write rfl cV_X4_store ml_X7_241 ⟨by decide, by decide⟩ 15 rfl rfl [.inl (i : Int), .inl (σ 7 ((σ 6 1 - 1 - (K - 1 - (i : Int))) % 40 * 3 + w).toNat)] [] rfl rfl (Nat.le_of_ble_eq_true rfl) 92 rfl (sp_store0 (sw_pf σ 16 (fun j : Nat => sw_cv (σ 15 2) (σ 7 ((σ 6 1 - 1 - (K - 1 - (j : Int))) % 40 * 3 + w).toNat)) i) (sw_pf_gs hσ 16 i (fun j _ => sw_cv_g (hσ 7 _))) (i : Int) (σ 7 ((σ 6 1 - 1 - (K - 1 - (i : Int))) % 40 * 3 + w).toNat) (by omega) hfm) (fun r5 σ6 hq7 => ?_)
      obtain ⟨rfl, rfl⟩ := hq7
      refine sw_blk k_X7_write 2 61 [(5, .inl ((i : Int) + 1)), (4, .inl K), (3, .inr (.inr 15)), (0, .inr (.inr 0)), (1, .inl 0), (2, .inl w)] [] (sw_u (sw_pf σ 16 (fun j : Nat => sw_cv (σ 15 2) (σ 7 ((σ 6 1 - 1 - (K - 1 - (j : Int))) % 40 * 3 + w).toNat)) i) 16 i (sw_cv (σ 15 2) (σ 7 ((σ 6 1 - 1 - (K - 1 - (i : Int))) % 40 * 3 + w).toNat))) rfl ?_
      rw [sw_pf_s σ 16 (fun j : Nat => sw_cv (σ 15 2) (σ 7 ((σ 6 1 - 1 - (K - 1 - (j : Int))) % 40 * 3 + w).toNat)) i rfl]
      exact ih (i + 1) (by omega) (by omega)
theorem cc_write0 (σ : sw_S) (hσ : sw_gs σ) (hs0 : 0 ≤ σ 15 3) (hs1 : σ 15 3 ≤ 60) (hfm : 0 ≤ σ 15 2 ∧ σ 15 2 ≤ 2) (h61 : 0 ≤ σ 6 1 ∧ σ 6 1 < 1000000) (w : Int) (gw : sw_g w) : sw_Con sw_ly sw_rho M_X7_write [.inr (.inr 0), .inl 0, .inl w] σ (fun r σ' => (¬ (0 ≤ w ∧ w ≤ 2) ∧ r = some (.inl (-2)) ∧ σ = σ') ∨ (((0 ≤ w ∧ w ≤ 2) ∧ ¬ σ 15 1 = 0) ∧ r = some (.inl (-10 - 1)) ∧ sw_u σ 0 9 1 = σ') ∨ (((0 ≤ w ∧ w ≤ 2) ∧ σ 15 1 = 0) ∧ r = some (.inl (min (min (σ 6 1) 40) (σ 15 3))) ∧ sw_pf σ 16 (fun j : Nat => sw_cv (σ 15 2) (σ 7 ((σ 6 1 - 1 - ((min (min (σ 6 1) 40) (σ 15 3)) - 1 - (j : Int))) % 40 * 3 + w).toNat)) (min (min (σ 6 1) 40) (σ 15 3)).toNat = σ')) := by
  refine sw_con (by decide) (Nat.le_of_ble_eq_true rfl) ?_
  refine sw_blk k_X7_write 1 1 [(0, .inr (.inr 0)), (1, .inl 0), (2, .inl w)] [.inl 0] σ rfl ?_
  refine sw_callS k_X7_write rfl cS_X7_isSheet ml_X7_219 ⟨by decide, by decide⟩ [.inl 0] [] rfl rfl (Nat.le_of_ble_eq_true rfl) 4 rfl (sp_isSheet σ 0 (by decide)) (fun r2 σ3 hq4 => ?_)
  obtain ⟨rfl, ⟨p1, rfl⟩ | ⟨p1, rfl⟩⟩ := hq4
  · refine sw_blk k_X7_write 0 4 [(0, .inr (.inr 0)), (1, .inl 0), (2, .inl w)] [.inl 1] σ rfl ?_
    refine sw_if_eq k_X7_write rfl (by decide) 16 7 (by decide) rfl (fun c => absurd c (by decide)) (fun _ => ?_)
    refine sw_blk k_X7_write 3 10 [(0, .inr (.inr 0)), (1, .inl 0), (2, .inl w)] [.inl 2, .inl 0, .inl w] σ rfl ?_
    refine sw_callS k_X7_write rfl cS_X7_within ml_X7_63 ⟨by decide, by decide⟩ [.inl w, .inl 0, .inl 2] [] rfl rfl (Nat.le_of_ble_eq_true rfl) 13 rfl (sp_within σ w 0 2 (by omega) (by decide) (by decide)) (fun r6 σ7 hq8 => ?_)
    obtain ⟨rfl, ⟨p5, rfl⟩ | ⟨p5, rfl⟩⟩ := hq8
    · refine sw_blk k_X7_write 0 13 [(0, .inr (.inr 0)), (1, .inl 0), (2, .inl w)] [.inl 1] σ rfl ?_
      refine sw_if_ne k_X7_write rfl (by decide) 19 16 (by decide) rfl (fun _ => ?_) (fun c => absurd c (by decide))
      refine sw_blk k_X7_write 3 24 [(0, .inr (.inr 0)), (1, .inl 0), (2, .inl w)] [.inl 0, .inr (.inr 14)] σ rfl ?_
      refine sw_aald k_X7_write rfl (i := 14) (n := 4) (r := 15) rfl (by decide) (by decide) (by decide) rfl 25 rfl ?_
      refine sw_blk k_X7_write 3 30 [(3, .inr (.inr 15)), (0, .inr (.inr 0)), (1, .inl 0), (2, .inl w)] [.inl (σ 15 1)] σ rfl ?_
      refine sw_if_eq k_X7_write rfl (hσ 15 _) 39 33 (by decide) rfl (fun c9 => ?_) (fun c9 => ?_)
      · refine sw_blk k_X7_write 3 46 [(3, .inr (.inr 15)), (0, .inr (.inr 0)), (1, .inl 0), (2, .inl w)] [.inr (.inr 6)] σ rfl ?_
        refine sw_callV k_X7_write rfl cV_X5_size ml_X7_213 ⟨by decide, by decide⟩ 6 rfl rfl [] [] rfl rfl (Nat.le_of_ble_eq_true rfl) 49 rfl (sp_size σ  (hσ 6 _)) (fun r10 σ11 hq12 => ?_)
        obtain ⟨rfl, rfl⟩ := hq12
        refine sw_blk k_X7_write 2 53 [(3, .inr (.inr 15)), (0, .inr (.inr 0)), (1, .inl 0), (2, .inl w)] [.inl (σ 15 3), .inl (min (σ 6 1) 40)] σ rfl ?_
        refine sw_callS k_X7_write rfl cS_J9_min_7cf53 ml_X7_265 ⟨by decide, by decide⟩ [.inl (min (σ 6 1) 40), .inl (σ 15 3)] [] rfl rfl (Nat.le_of_ble_eq_true rfl) 56 rfl (sp_min σ (min (σ 6 1) 40) (σ 15 3) (by omega) (by omega)) (fun r13 σ14 hq15 => ?_)
        obtain ⟨rfl, rfl⟩ := hq15
        refine sw_blk k_X7_write 3 61 [(5, .inl 0), (4, .inl (min (min (σ 6 1) 40) (σ 15 3))), (3, .inr (.inr 15)), (0, .inr (.inr 0)), (1, .inl 0), (2, .inl w)] [] σ rfl ?_
        have h := lp_write0 σ hσ hs0 hs1 hfm h61 (min (min (σ 6 1) 40) (σ 15 3)) w (by omega) (by omega) (by omega) (fun r σ' => (¬ (0 ≤ w ∧ w ≤ 2) ∧ r = some (.inl (-2)) ∧ σ = σ') ∨ (((0 ≤ w ∧ w ≤ 2) ∧ ¬ σ 15 1 = 0) ∧ r = some (.inl (-10 - 1)) ∧ sw_u σ 0 9 1 = σ') ∨ (((0 ≤ w ∧ w ≤ 2) ∧ σ 15 1 = 0) ∧ r = some (.inl (min (min (σ 6 1) 40) (σ 15 3))) ∧ sw_pf σ 16 (fun j : Nat => sw_cv (σ 15 2) (σ 7 ((σ 6 1 - 1 - ((min (min (σ 6 1) 40) (σ 15 3)) - 1 - (j : Int))) % 40 * 3 + w).toNat)) (min (min (σ 6 1) 40) (σ 15 3)).toNat = σ')) (Or.inr (Or.inr ⟨by omega, rfl, rfl⟩)) 62 0 (by omega) (by omega)
        rw [sw_pf_0] at h
        exact h
      · refine sw_blk k_X7_write 2 35 [(3, .inr (.inr 15)), (0, .inr (.inr 0)), (1, .inl 0), (2, .inl w)] [.inl 1, .inr (.inr 0)] σ rfl ?_
        refine sw_callV k_X7_write rfl cV_X7_finding ml_X7_225 ⟨by decide, by decide⟩ 0 rfl rfl [.inl 1] [] rfl rfl (Nat.le_of_ble_eq_true rfl) 38 rfl (sp_finding σ 1) (fun r16 σ17 hq18 => ?_)
        obtain ⟨rfl, rfl⟩ := hq18
        refine sw_blk k_X7_write 0 38 [(3, .inr (.inr 15)), (0, .inr (.inr 0)), (1, .inl 0), (2, .inl w)] [.inl (-10 - 1)] (sw_u σ 0 9 1) rfl ?_
        refine sw_ireturn k_X7_write rfl rfl ?_
        exact Or.inr (Or.inl ⟨by omega, rfl, rfl⟩)
    · refine sw_blk k_X7_write 0 13 [(0, .inr (.inr 0)), (1, .inl 0), (2, .inl w)] [.inl 0] σ rfl ?_
      refine sw_if_ne k_X7_write rfl (by decide) 19 16 (by decide) rfl (fun c => absurd (by decide) c) (fun _ => ?_)
      refine sw_blk k_X7_write 1 18 [(0, .inr (.inr 0)), (1, .inl 0), (2, .inl w)] [.inl (-2)] σ rfl ?_
      refine sw_ireturn k_X7_write rfl rfl ?_
      exact Or.inl ⟨by omega, rfl, rfl⟩
  · exact absurd (by decide) p1
theorem lp_plan0 (σ : sw_S) (hσ : sw_gs σ) (hs0 : 0 ≤ σ 15 3) (hs1 : σ 15 3 ≤ 60) (hfm : 0 ≤ σ 15 2 ∧ σ 15 2 ≤ 2) (K q : Int) (hK : 0 ≤ K ∧ K ≤ 60) (Q : Option sw_Vl → sw_S → Prop) (hQ : Q (some (.inl K)) (sw_pf σ 16 (fun j : Nat => sw_cv (σ 15 2) (σ 25 j)) K.toNat)) : ∀ (n : Nat) (i : Nat), (i : Int) ≤ K → 61 - i < n → sw_E sw_ly sw_rho M_X7_plan 85 [(5, .inl (i : Int)), (4, .inl K), (3, .inr (.inr 15)), (0, .inr (.inr 0)), (1, .inl 0), (2, .inl q)] [] (sw_pf σ 16 (fun j : Nat => sw_cv (σ 15 2) (σ 25 j)) i) Q := by
  intro n
  induction n with
  | zero =>
    intro i hi hn
    omega
  | succ n ih =>
    intro i hi hn
    refine sw_blk k_X7_plan 2 89 [(5, .inl (i : Int)), (4, .inl K), (3, .inr (.inr 15)), (0, .inr (.inr 0)), (1, .inl 0), (2, .inl q)] [.inl K, .inl (i : Int)] (sw_pf σ 16 (fun j : Nat => sw_cv (σ 15 2) (σ 25 j)) i) rfl ?_
    refine sw_icmp_ge k_X7_plan rfl (by omega) (by omega) 111 92 (by decide) rfl (fun c1 => ?_) (fun c1 => ?_)
    · refine sw_blk k_X7_plan 1 113 [(5, .inl (i : Int)), (4, .inl K), (3, .inr (.inr 15)), (0, .inr (.inr 0)), (1, .inl 0), (2, .inl q)] [.inl K] (sw_pf σ 16 (fun j : Nat => sw_cv (σ 15 2) (σ 25 j)) i) rfl ?_
      refine sw_ireturn k_X7_plan rfl rfl ?_
      have e : K.toNat = i := by omega
      rw [e] at hQ
      exact hQ
    · refine sw_blk k_X7_plan 5 101 [(5, .inl (i : Int)), (4, .inl K), (3, .inr (.inr 15)), (0, .inr (.inr 0)), (1, .inl 0), (2, .inl q)] [.inl (i : Int), .inr (.inr 25), .inl (i : Int), .inr (.inr 15)] (sw_pf σ 16 (fun j : Nat => sw_cv (σ 15 2) (σ 25 j)) i) rfl ?_
      refine sw_iald k_X7_plan rfl (i := 25) (n := 400) rfl (by decide) (by omega) (by omega) 102 rfl ?_
      refine sw_blk k_X7_plan 0 102 [(5, .inl (i : Int)), (4, .inl K), (3, .inr (.inr 15)), (0, .inr (.inr 0)), (1, .inl 0), (2, .inl q)] [.inl ((sw_pf σ 16 (fun j : Nat => sw_cv (σ 15 2) (σ 25 j)) i) 25 i), .inl (i : Int), .inr (.inr 15)] (sw_pf σ 16 (fun j : Nat => sw_cv (σ 15 2) (σ 25 j)) i) rfl ?_
      refine sw_callV k_X7_plan rfl cV_X4_store ml_X7_241 ⟨by decide, by decide⟩ 15 rfl rfl [.inl (i : Int), .inl ((sw_pf σ 16 (fun j : Nat => sw_cv (σ 15 2) (σ 25 j)) i) 25 i)] [] rfl rfl (Nat.le_of_ble_eq_true rfl) 105 rfl (sp_store0 (sw_pf σ 16 (fun j : Nat => sw_cv (σ 15 2) (σ 25 j)) i) (sw_pf_gs hσ 16 i (fun j _ => sw_cv_g (hσ 25 _))) (i : Int) ((sw_pf σ 16 (fun j : Nat => sw_cv (σ 15 2) (σ 25 j)) i) 25 i) (by omega) hfm) (fun r2 σ3 hq4 => ?_)
      obtain ⟨rfl, rfl⟩ := hq4
      refine sw_blk k_X7_plan 2 85 [(5, .inl ((i : Int) + 1)), (4, .inl K), (3, .inr (.inr 15)), (0, .inr (.inr 0)), (1, .inl 0), (2, .inl q)] [] (sw_u (sw_pf σ 16 (fun j : Nat => sw_cv (σ 15 2) (σ 25 j)) i) 16 i (sw_cv (σ 15 2) ((sw_pf σ 16 (fun j : Nat => sw_cv (σ 15 2) (σ 25 j)) i) 25 i))) rfl ?_
      rw [sw_pf_s σ 16 (fun j : Nat => sw_cv (σ 15 2) (σ 25 j)) i (by rw [sw_pf_row σ _ _ (by decide)])]
      exact ih (i + 1) (by omega) (by omega)
theorem cc_plan0 (σ : sw_S) (hσ : sw_gs σ) (hD : 10 ≤ σ 1 0 ∧ σ 1 0 ≤ 400) (hV : 1 ≤ σ 1 1 ∧ σ 1 1 ≤ 20) (hA : 1 ≤ σ 1 2 ∧ σ 1 2 ≤ 5) (hL : ∀ x : Int, 0 ≤ x → x ≤ σ 1 0 → 1 ≤ σ 2 x.toNat ∧ σ 2 x.toNat ≤ σ 1 1) (hf : sw_fn σ) (hpl : 0 ≤ σ 5 7 ∧ σ 5 7 ≤ σ 1 0) (hs0 : 0 ≤ σ 15 3) (hs1 : σ 15 3 ≤ 60) (hfm : 0 ≤ σ 15 2 ∧ σ 15 2 ≤ 2) (q : Int) (gq : sw_g q) : sw_Con sw_ly sw_rho M_X7_plan [.inr (.inr 0), .inl 0, .inl q] σ (fun r σ' => (¬ (0 ≤ q ∧ q ≤ σ 1 0) ∧ r = some (.inl (-2)) ∧ σ = σ') ∨ (((0 ≤ q ∧ q ≤ σ 1 0) ∧ ¬ σ 5 9 = 0) ∧ r = some (.inl (-4)) ∧ σ = σ') ∨ (((0 ≤ q ∧ q ≤ σ 1 0) ∧ σ 5 9 = 0 ∧ ¬ σ 15 1 = 0) ∧ r = some (.inl (-10 - 1)) ∧ sw_u σ 0 9 1 = σ') ∨ (((0 ≤ q ∧ q ≤ σ 1 0) ∧ σ 5 9 = 0 ∧ σ 15 1 = 0) ∧ ∃ (n : Nat) (τ : sw_S), sw_fkc 25 σ τ ∧ sw_gs τ ∧ sw_fn τ ∧ sw_isr (σ 2) (σ 1 0) (σ 1 1) (σ 1 2) (σ 5 7) q n (τ 25) ∧ r = some (.inl (min (n : Int) (σ 15 3))) ∧ sw_pf τ 16 (fun j : Nat => sw_cv (σ 15 2) (τ 25 j)) (min (n : Int) (σ 15 3)).toNat = σ')) := by
  refine sw_con (by decide) (Nat.le_of_ble_eq_true rfl) ?_
  refine sw_blk k_X7_plan 1 1 [(0, .inr (.inr 0)), (1, .inl 0), (2, .inl q)] [.inl 0] σ rfl ?_
  refine sw_callS k_X7_plan rfl cS_X7_isSheet ml_X7_219 ⟨by decide, by decide⟩ [.inl 0] [] rfl rfl (Nat.le_of_ble_eq_true rfl) 4 rfl (sp_isSheet σ 0 (by decide)) (fun r2 σ3 hq4 => ?_)
  obtain ⟨rfl, ⟨p1, rfl⟩ | ⟨p1, rfl⟩⟩ := hq4
  · refine sw_blk k_X7_plan 0 4 [(0, .inr (.inr 0)), (1, .inl 0), (2, .inl q)] [.inl 1] σ rfl ?_
    refine sw_if_eq k_X7_plan rfl (by decide) 18 7 (by decide) rfl (fun c => absurd c (by decide)) (fun _ => ?_)
    refine sw_blk k_X7_plan 3 12 [(0, .inr (.inr 0)), (1, .inl 0), (2, .inl q)] [.inl q, .inr (.inr 1)] σ rfl ?_
    refine sw_callV k_X7_plan rfl cV_X3_has ml_X7_85 ⟨by decide, by decide⟩ 1 rfl rfl [.inl q] [] rfl rfl (Nat.le_of_ble_eq_true rfl) 15 rfl (sp_has σ q (by omega) (hσ 1 0)) (fun r6 σ7 hq8 => ?_)
    obtain ⟨rfl, ⟨p5, rfl⟩ | ⟨p5, rfl⟩⟩ := hq8
    · have p5 : 0 ≤ q ∧ q ≤ (σ 1 0) := p5
      refine sw_blk k_X7_plan 0 15 [(0, .inr (.inr 0)), (1, .inl 0), (2, .inl q)] [.inl 1] σ rfl ?_
      refine sw_if_ne k_X7_plan rfl (by decide) 21 18 (by decide) rfl (fun _ => ?_) (fun c => absurd c (by decide))
      refine sw_blk k_X7_plan 2 25 [(0, .inr (.inr 0)), (1, .inl 0), (2, .inl q)] [.inr (.inr 5)] σ rfl ?_
      refine sw_callV k_X7_plan rfl cV_X6_rests ml_X7_67 ⟨by decide, by decide⟩ 5 rfl rfl [] [] rfl rfl (Nat.le_of_ble_eq_true rfl) 28 rfl (sp_rests σ  (hσ 5 _)) (fun r10 σ11 hq12 => ?_)
      obtain ⟨rfl, ⟨p9, rfl⟩ | ⟨p9, rfl⟩⟩ := hq12
      · refine sw_blk k_X7_plan 0 28 [(0, .inr (.inr 0)), (1, .inl 0), (2, .inl q)] [.inl 1] σ rfl ?_
        refine sw_if_ne k_X7_plan rfl (by decide) 34 31 (by decide) rfl (fun _ => ?_) (fun c => absurd c (by decide))
        refine sw_blk k_X7_plan 3 39 [(0, .inr (.inr 0)), (1, .inl 0), (2, .inl q)] [.inl 0, .inr (.inr 14)] σ rfl ?_
        refine sw_aald k_X7_plan rfl (i := 14) (n := 4) (r := 15) rfl (by decide) (by decide) (by decide) rfl 40 rfl ?_
        refine sw_blk k_X7_plan 3 45 [(3, .inr (.inr 15)), (0, .inr (.inr 0)), (1, .inl 0), (2, .inl q)] [.inl (σ 15 1)] σ rfl ?_
        refine sw_if_eq k_X7_plan rfl (hσ 15 _) 54 48 (by decide) rfl (fun c13 => ?_) (fun c13 => ?_)
        · refine sw_blk k_X7_plan 8 70 [(3, .inr (.inr 15)), (0, .inr (.inr 0)), (1, .inl 0), (2, .inl q)] [.inr (.inr 25), .inl q, .inl (σ 5 7), .inr (.inr 3)] σ rfl ?_
          refine sw_callV k_X7_plan rfl cV_X1_trace ml_X7_102 ⟨by decide, by decide⟩ 3 rfl rfl [.inl (σ 5 7), .inl q, .inr (.inr 25)] [] rfl rfl (Nat.le_of_ble_eq_true rfl) 73 rfl (sp_tracea σ hσ hD hV hA hL (σ 5 7) q (by omega) (by omega) hf) (fun r14 σ15 hq16 => ?_)
          obtain ⟨fk1, fk2, fk3, nn, rfl, nn1, nn2, nn3, nn4⟩ := hq16
          have hisr : sw_isr (σ 2) (σ 1 0) (σ 1 1) (σ 1 2) (σ 5 7) q nn _ := ⟨⟨nn1, nn2, nn3⟩, nn4⟩
          refine sw_blk k_X7_plan 2 77 [(3, .inr (.inr 15)), (0, .inr (.inr 0)), (1, .inl 0), (2, .inl q)] [.inl (σ15 15 3), .inl (nn : Int)] σ15 rfl ?_
          have eo : σ15 15 = σ 15 := funext fun j => fk1 15 j (by decide) (by decide) (fun z => absurd z (by decide))
          refine sw_callS k_X7_plan rfl cS_J9_min_7cf53 ml_X7_265 ⟨by decide, by decide⟩ [.inl (nn : Int), .inl (σ15 15 3)] [] rfl rfl (Nat.le_of_ble_eq_true rfl) 80 rfl (sp_min σ15 (nn : Int) (σ15 15 3) (by omega) (fk2 15 3)) (fun r17 σ18 hq19 => ?_)
          obtain ⟨rfl, rfl⟩ := hq19
          refine sw_blk k_X7_plan 3 85 [(5, .inl 0), (4, .inl (min (nn : Int) (σ15 15 3))), (3, .inr (.inr 15)), (0, .inr (.inr 0)), (1, .inl 0), (2, .inl q)] [] σ15 rfl ?_
          have h := lp_plan0 σ15 fk2 (by rw [eo]; exact hs0) (by rw [eo]; exact hs1) (by rw [eo]; exact hfm) (min (nn : Int) (σ15 15 3)) q (by rw [eo]; omega) (fun r σ' => (¬ (0 ≤ q ∧ q ≤ σ 1 0) ∧ r = some (.inl (-2)) ∧ σ = σ') ∨ (((0 ≤ q ∧ q ≤ σ 1 0) ∧ ¬ σ 5 9 = 0) ∧ r = some (.inl (-4)) ∧ σ = σ') ∨ (((0 ≤ q ∧ q ≤ σ 1 0) ∧ σ 5 9 = 0 ∧ ¬ σ 15 1 = 0) ∧ r = some (.inl (-10 - 1)) ∧ sw_u σ 0 9 1 = σ') ∨ (((0 ≤ q ∧ q ≤ σ 1 0) ∧ σ 5 9 = 0 ∧ σ 15 1 = 0) ∧ ∃ (n : Nat) (τ : sw_S), sw_fkc 25 σ τ ∧ sw_gs τ ∧ sw_fn τ ∧ sw_isr (σ 2) (σ 1 0) (σ 1 1) (σ 1 2) (σ 5 7) q n (τ 25) ∧ r = some (.inl (min (n : Int) (σ 15 3))) ∧ sw_pf τ 16 (fun j : Nat => sw_cv (σ 15 2) (τ 25 j)) (min (n : Int) (σ 15 3)).toNat = σ')) (Or.inr (Or.inr (Or.inr ⟨by omega, nn, σ15, fk1, fk2, fk3, hisr, by rw [eo], by rw [eo]⟩))) 62 0 (by rw [eo]; omega) (by omega)
          rw [sw_pf_0] at h
          exact h
        · refine sw_blk k_X7_plan 2 50 [(3, .inr (.inr 15)), (0, .inr (.inr 0)), (1, .inl 0), (2, .inl q)] [.inl 1, .inr (.inr 0)] σ rfl ?_
          refine sw_callV k_X7_plan rfl cV_X7_finding ml_X7_225 ⟨by decide, by decide⟩ 0 rfl rfl [.inl 1] [] rfl rfl (Nat.le_of_ble_eq_true rfl) 53 rfl (sp_finding σ 1) (fun r20 σ21 hq22 => ?_)
          obtain ⟨rfl, rfl⟩ := hq22
          refine sw_blk k_X7_plan 0 53 [(3, .inr (.inr 15)), (0, .inr (.inr 0)), (1, .inl 0), (2, .inl q)] [.inl (-10 - 1)] (sw_u σ 0 9 1) rfl ?_
          refine sw_ireturn k_X7_plan rfl rfl ?_
          exact Or.inr (Or.inr (Or.inl ⟨by omega, rfl, rfl⟩))
      · refine sw_blk k_X7_plan 0 28 [(0, .inr (.inr 0)), (1, .inl 0), (2, .inl q)] [.inl 0] σ rfl ?_
        refine sw_if_ne k_X7_plan rfl (by decide) 34 31 (by decide) rfl (fun c => absurd (by decide) c) (fun _ => ?_)
        refine sw_blk k_X7_plan 1 33 [(0, .inr (.inr 0)), (1, .inl 0), (2, .inl q)] [.inl (-4)] σ rfl ?_
        refine sw_ireturn k_X7_plan rfl rfl ?_
        exact Or.inr (Or.inl ⟨by omega, rfl, rfl⟩)
    · have p5 : ¬ (0 ≤ q ∧ q ≤ (σ 1 0)) := p5
      refine sw_blk k_X7_plan 0 15 [(0, .inr (.inr 0)), (1, .inl 0), (2, .inl q)] [.inl 0] σ rfl ?_
      refine sw_if_ne k_X7_plan rfl (by decide) 21 18 (by decide) rfl (fun c => absurd (by decide) c) (fun _ => ?_)
      refine sw_blk k_X7_plan 1 20 [(0, .inr (.inr 0)), (1, .inl 0), (2, .inl q)] [.inl (-2)] σ rfl ?_
      refine sw_ireturn k_X7_plan rfl rfl ?_
      exact Or.inl ⟨by omega, rfl, rfl⟩
  · exact absurd (by decide) p1
theorem lp_write1 (σ : sw_S) (hσ : sw_gs σ) (hs0 : 0 ≤ σ 17 3) (hs1 : σ 17 3 ≤ 60) (hfm : 0 ≤ σ 17 2 ∧ σ 17 2 ≤ 2) (h61 : 0 ≤ σ 6 1 ∧ σ 6 1 < 1000000) (K w : Int) (hK : 0 ≤ K ∧ K ≤ 40 ∧ K ≤ 60 ∧ K ≤ σ 6 1) (hK2 : K ≤ σ 17 3) (hw : 0 ≤ w ∧ w ≤ 2) (Q : Option sw_Vl → sw_S → Prop) (hQ : Q (some (.inl K)) (sw_pf σ 18 (fun j : Nat => sw_cv (σ 17 2) (σ 7 ((σ 6 1 - 1 - (K - 1 - (j : Int))) % 40 * 3 + w).toNat)) K.toNat)) : ∀ (n : Nat) (i : Nat), (i : Int) ≤ K → 61 - i < n → sw_E sw_ly sw_rho M_X7_write 61 [(5, .inl (i : Int)), (4, .inl K), (3, .inr (.inr 17)), (0, .inr (.inr 0)), (1, .inl 1), (2, .inl w)] [] (sw_pf σ 18 (fun j : Nat => sw_cv (σ 17 2) (σ 7 ((σ 6 1 - 1 - (K - 1 - (j : Int))) % 40 * 3 + w).toNat)) i) Q := by
  intro n
  induction n with
  | zero =>
    intro i hi hn
    omega
  | succ n ih =>
    intro i hi hn
    refine sw_blk k_X7_write 2 65 [(5, .inl (i : Int)), (4, .inl K), (3, .inr (.inr 17)), (0, .inr (.inr 0)), (1, .inl 1), (2, .inl w)] [.inl K, .inl (i : Int)] (sw_pf σ 18 (fun j : Nat => sw_cv (σ 17 2) (σ 7 ((σ 6 1 - 1 - (K - 1 - (j : Int))) % 40 * 3 + w).toNat)) i) rfl ?_
    refine sw_icmp_ge k_X7_write rfl (by omega) (by omega) 98 68 (by decide) rfl (fun c1 => ?_) (fun c1 => ?_)
    · refine sw_blk k_X7_write 1 100 [(5, .inl (i : Int)), (4, .inl K), (3, .inr (.inr 17)), (0, .inr (.inr 0)), (1, .inl 1), (2, .inl w)] [.inl K] (sw_pf σ 18 (fun j : Nat => sw_cv (σ 17 2) (σ 7 ((σ 6 1 - 1 - (K - 1 - (j : Int))) % 40 * 3 + w).toNat)) i) rfl ?_
      refine sw_ireturn k_X7_write rfl rfl ?_
      have e : K.toNat = i := by omega
      rw [e] at hQ
      exact hQ
    · refine sw_blk k_X7_write 11 86 [(5, .inl (i : Int)), (4, .inl K), (3, .inr (.inr 17)), (0, .inr (.inr 0)), (1, .inl 1), (2, .inl w)] [.inl w, .inl ((K - 1) - (i : Int)), .inr (.inr 6), .inl (i : Int), .inr (.inr 17)] (sw_pf σ 18 (fun j : Nat => sw_cv (σ 17 2) (σ 7 ((σ 6 1 - 1 - (K - 1 - (j : Int))) % 40 * 3 + w).toNat)) i) rfl ?_
      refine sw_callV k_X7_write rfl cV_X5_latest ml_X7_216 ⟨by decide, by decide⟩ 6 rfl rfl [.inl ((K - 1) - (i : Int)), .inl w] [.inl (i : Int), .inr (.inr 17)] rfl rfl (Nat.le_of_ble_eq_true rfl) 89 rfl (sp_latest (sw_pf σ 18 (fun j : Nat => sw_cv (σ 17 2) (σ 7 ((σ 6 1 - 1 - (K - 1 - (j : Int))) % 40 * 3 + w).toNat)) i) (K - 1 - (i : Int)) w (by omega) (by omega) (show K - 1 - (i : Int) < σ 6 1 by omega) h61.2) (fun r2 σ3 hq4 => ?_)
      obtain ⟨rfl, rfl⟩ := hq4
      refine sw_blk k_X7_write 0 89 [(5, .inl (i : Int)), (4, .inl K), (3, .inr (.inr 17)), (0, .inr (.inr 0)), (1, .inl 1), (2, .inl w)] [.inl (σ 7 ((σ 6 1 - 1 - (K - 1 - (i : Int))) % 40 * 3 + w).toNat), .inl (i : Int), .inr (.inr 17)] (sw_pf σ 18 (fun j : Nat => sw_cv (σ 17 2) (σ 7 ((σ 6 1 - 1 - (K - 1 - (j : Int))) % 40 * 3 + w).toNat)) i) rfl ?_
      refine sw_callV k_X7_write rfl cV_X4_store ml_X7_241 ⟨by decide, by decide⟩ 17 rfl rfl [.inl (i : Int), .inl (σ 7 ((σ 6 1 - 1 - (K - 1 - (i : Int))) % 40 * 3 + w).toNat)] [] rfl rfl (Nat.le_of_ble_eq_true rfl) 92 rfl (sp_store1 (sw_pf σ 18 (fun j : Nat => sw_cv (σ 17 2) (σ 7 ((σ 6 1 - 1 - (K - 1 - (j : Int))) % 40 * 3 + w).toNat)) i) (sw_pf_gs hσ 18 i (fun j _ => sw_cv_g (hσ 7 _))) (i : Int) (σ 7 ((σ 6 1 - 1 - (K - 1 - (i : Int))) % 40 * 3 + w).toNat) (by omega) hfm) (fun r5 σ6 hq7 => ?_)
      obtain ⟨rfl, rfl⟩ := hq7
      refine sw_blk k_X7_write 2 61 [(5, .inl ((i : Int) + 1)), (4, .inl K), (3, .inr (.inr 17)), (0, .inr (.inr 0)), (1, .inl 1), (2, .inl w)] [] (sw_u (sw_pf σ 18 (fun j : Nat => sw_cv (σ 17 2) (σ 7 ((σ 6 1 - 1 - (K - 1 - (j : Int))) % 40 * 3 + w).toNat)) i) 18 i (sw_cv (σ 17 2) (σ 7 ((σ 6 1 - 1 - (K - 1 - (i : Int))) % 40 * 3 + w).toNat))) rfl ?_
      rw [sw_pf_s σ 18 (fun j : Nat => sw_cv (σ 17 2) (σ 7 ((σ 6 1 - 1 - (K - 1 - (j : Int))) % 40 * 3 + w).toNat)) i rfl]
      exact ih (i + 1) (by omega) (by omega)
theorem cc_write1 (σ : sw_S) (hσ : sw_gs σ) (hs0 : 0 ≤ σ 17 3) (hs1 : σ 17 3 ≤ 60) (hfm : 0 ≤ σ 17 2 ∧ σ 17 2 ≤ 2) (h61 : 0 ≤ σ 6 1 ∧ σ 6 1 < 1000000) (w : Int) (gw : sw_g w) : sw_Con sw_ly sw_rho M_X7_write [.inr (.inr 0), .inl 1, .inl w] σ (fun r σ' => (¬ (0 ≤ w ∧ w ≤ 2) ∧ r = some (.inl (-2)) ∧ σ = σ') ∨ (((0 ≤ w ∧ w ≤ 2) ∧ ¬ σ 17 1 = 0) ∧ r = some (.inl (-10 - 1)) ∧ sw_u σ 0 9 1 = σ') ∨ (((0 ≤ w ∧ w ≤ 2) ∧ σ 17 1 = 0) ∧ r = some (.inl (min (min (σ 6 1) 40) (σ 17 3))) ∧ sw_pf σ 18 (fun j : Nat => sw_cv (σ 17 2) (σ 7 ((σ 6 1 - 1 - ((min (min (σ 6 1) 40) (σ 17 3)) - 1 - (j : Int))) % 40 * 3 + w).toNat)) (min (min (σ 6 1) 40) (σ 17 3)).toNat = σ')) := by
  refine sw_con (by decide) (Nat.le_of_ble_eq_true rfl) ?_
  refine sw_blk k_X7_write 1 1 [(0, .inr (.inr 0)), (1, .inl 1), (2, .inl w)] [.inl 1] σ rfl ?_
  refine sw_callS k_X7_write rfl cS_X7_isSheet ml_X7_219 ⟨by decide, by decide⟩ [.inl 1] [] rfl rfl (Nat.le_of_ble_eq_true rfl) 4 rfl (sp_isSheet σ 1 (by decide)) (fun r2 σ3 hq4 => ?_)
  obtain ⟨rfl, ⟨p1, rfl⟩ | ⟨p1, rfl⟩⟩ := hq4
  · refine sw_blk k_X7_write 0 4 [(0, .inr (.inr 0)), (1, .inl 1), (2, .inl w)] [.inl 1] σ rfl ?_
    refine sw_if_eq k_X7_write rfl (by decide) 16 7 (by decide) rfl (fun c => absurd c (by decide)) (fun _ => ?_)
    refine sw_blk k_X7_write 3 10 [(0, .inr (.inr 0)), (1, .inl 1), (2, .inl w)] [.inl 2, .inl 0, .inl w] σ rfl ?_
    refine sw_callS k_X7_write rfl cS_X7_within ml_X7_63 ⟨by decide, by decide⟩ [.inl w, .inl 0, .inl 2] [] rfl rfl (Nat.le_of_ble_eq_true rfl) 13 rfl (sp_within σ w 0 2 (by omega) (by decide) (by decide)) (fun r6 σ7 hq8 => ?_)
    obtain ⟨rfl, ⟨p5, rfl⟩ | ⟨p5, rfl⟩⟩ := hq8
    · refine sw_blk k_X7_write 0 13 [(0, .inr (.inr 0)), (1, .inl 1), (2, .inl w)] [.inl 1] σ rfl ?_
      refine sw_if_ne k_X7_write rfl (by decide) 19 16 (by decide) rfl (fun _ => ?_) (fun c => absurd c (by decide))
      refine sw_blk k_X7_write 3 24 [(0, .inr (.inr 0)), (1, .inl 1), (2, .inl w)] [.inl 1, .inr (.inr 14)] σ rfl ?_
      refine sw_aald k_X7_write rfl (i := 14) (n := 4) (r := 17) rfl (by decide) (by decide) (by decide) rfl 25 rfl ?_
      refine sw_blk k_X7_write 3 30 [(3, .inr (.inr 17)), (0, .inr (.inr 0)), (1, .inl 1), (2, .inl w)] [.inl (σ 17 1)] σ rfl ?_
      refine sw_if_eq k_X7_write rfl (hσ 17 _) 39 33 (by decide) rfl (fun c9 => ?_) (fun c9 => ?_)
      · refine sw_blk k_X7_write 3 46 [(3, .inr (.inr 17)), (0, .inr (.inr 0)), (1, .inl 1), (2, .inl w)] [.inr (.inr 6)] σ rfl ?_
        refine sw_callV k_X7_write rfl cV_X5_size ml_X7_213 ⟨by decide, by decide⟩ 6 rfl rfl [] [] rfl rfl (Nat.le_of_ble_eq_true rfl) 49 rfl (sp_size σ  (hσ 6 _)) (fun r10 σ11 hq12 => ?_)
        obtain ⟨rfl, rfl⟩ := hq12
        refine sw_blk k_X7_write 2 53 [(3, .inr (.inr 17)), (0, .inr (.inr 0)), (1, .inl 1), (2, .inl w)] [.inl (σ 17 3), .inl (min (σ 6 1) 40)] σ rfl ?_
        refine sw_callS k_X7_write rfl cS_J9_min_7cf53 ml_X7_265 ⟨by decide, by decide⟩ [.inl (min (σ 6 1) 40), .inl (σ 17 3)] [] rfl rfl (Nat.le_of_ble_eq_true rfl) 56 rfl (sp_min σ (min (σ 6 1) 40) (σ 17 3) (by omega) (by omega)) (fun r13 σ14 hq15 => ?_)
        obtain ⟨rfl, rfl⟩ := hq15
        refine sw_blk k_X7_write 3 61 [(5, .inl 0), (4, .inl (min (min (σ 6 1) 40) (σ 17 3))), (3, .inr (.inr 17)), (0, .inr (.inr 0)), (1, .inl 1), (2, .inl w)] [] σ rfl ?_
        have h := lp_write1 σ hσ hs0 hs1 hfm h61 (min (min (σ 6 1) 40) (σ 17 3)) w (by omega) (by omega) (by omega) (fun r σ' => (¬ (0 ≤ w ∧ w ≤ 2) ∧ r = some (.inl (-2)) ∧ σ = σ') ∨ (((0 ≤ w ∧ w ≤ 2) ∧ ¬ σ 17 1 = 0) ∧ r = some (.inl (-10 - 1)) ∧ sw_u σ 0 9 1 = σ') ∨ (((0 ≤ w ∧ w ≤ 2) ∧ σ 17 1 = 0) ∧ r = some (.inl (min (min (σ 6 1) 40) (σ 17 3))) ∧ sw_pf σ 18 (fun j : Nat => sw_cv (σ 17 2) (σ 7 ((σ 6 1 - 1 - ((min (min (σ 6 1) 40) (σ 17 3)) - 1 - (j : Int))) % 40 * 3 + w).toNat)) (min (min (σ 6 1) 40) (σ 17 3)).toNat = σ')) (Or.inr (Or.inr ⟨by omega, rfl, rfl⟩)) 62 0 (by omega) (by omega)
        rw [sw_pf_0] at h
        exact h
      · refine sw_blk k_X7_write 2 35 [(3, .inr (.inr 17)), (0, .inr (.inr 0)), (1, .inl 1), (2, .inl w)] [.inl 1, .inr (.inr 0)] σ rfl ?_
        refine sw_callV k_X7_write rfl cV_X7_finding ml_X7_225 ⟨by decide, by decide⟩ 0 rfl rfl [.inl 1] [] rfl rfl (Nat.le_of_ble_eq_true rfl) 38 rfl (sp_finding σ 1) (fun r16 σ17 hq18 => ?_)
        obtain ⟨rfl, rfl⟩ := hq18
        refine sw_blk k_X7_write 0 38 [(3, .inr (.inr 17)), (0, .inr (.inr 0)), (1, .inl 1), (2, .inl w)] [.inl (-10 - 1)] (sw_u σ 0 9 1) rfl ?_
        refine sw_ireturn k_X7_write rfl rfl ?_
        exact Or.inr (Or.inl ⟨by omega, rfl, rfl⟩)
    · refine sw_blk k_X7_write 0 13 [(0, .inr (.inr 0)), (1, .inl 1), (2, .inl w)] [.inl 0] σ rfl ?_
      refine sw_if_ne k_X7_write rfl (by decide) 19 16 (by decide) rfl (fun c => absurd (by decide) c) (fun _ => ?_)
      refine sw_blk k_X7_write 1 18 [(0, .inr (.inr 0)), (1, .inl 1), (2, .inl w)] [.inl (-2)] σ rfl ?_
      refine sw_ireturn k_X7_write rfl rfl ?_
      exact Or.inl ⟨by omega, rfl, rfl⟩
  · exact absurd (by decide) p1
theorem lp_plan1 (σ : sw_S) (hσ : sw_gs σ) (hs0 : 0 ≤ σ 17 3) (hs1 : σ 17 3 ≤ 60) (hfm : 0 ≤ σ 17 2 ∧ σ 17 2 ≤ 2) (K q : Int) (hK : 0 ≤ K ∧ K ≤ 60) (Q : Option sw_Vl → sw_S → Prop) (hQ : Q (some (.inl K)) (sw_pf σ 18 (fun j : Nat => sw_cv (σ 17 2) (σ 25 j)) K.toNat)) : ∀ (n : Nat) (i : Nat), (i : Int) ≤ K → 61 - i < n → sw_E sw_ly sw_rho M_X7_plan 85 [(5, .inl (i : Int)), (4, .inl K), (3, .inr (.inr 17)), (0, .inr (.inr 0)), (1, .inl 1), (2, .inl q)] [] (sw_pf σ 18 (fun j : Nat => sw_cv (σ 17 2) (σ 25 j)) i) Q := by
  intro n
  induction n with
  | zero =>
    intro i hi hn
    omega
  | succ n ih =>
    intro i hi hn
    refine sw_blk k_X7_plan 2 89 [(5, .inl (i : Int)), (4, .inl K), (3, .inr (.inr 17)), (0, .inr (.inr 0)), (1, .inl 1), (2, .inl q)] [.inl K, .inl (i : Int)] (sw_pf σ 18 (fun j : Nat => sw_cv (σ 17 2) (σ 25 j)) i) rfl ?_
    refine sw_icmp_ge k_X7_plan rfl (by omega) (by omega) 111 92 (by decide) rfl (fun c1 => ?_) (fun c1 => ?_)
    · refine sw_blk k_X7_plan 1 113 [(5, .inl (i : Int)), (4, .inl K), (3, .inr (.inr 17)), (0, .inr (.inr 0)), (1, .inl 1), (2, .inl q)] [.inl K] (sw_pf σ 18 (fun j : Nat => sw_cv (σ 17 2) (σ 25 j)) i) rfl ?_
      refine sw_ireturn k_X7_plan rfl rfl ?_
      have e : K.toNat = i := by omega
      rw [e] at hQ
      exact hQ
    · refine sw_blk k_X7_plan 5 101 [(5, .inl (i : Int)), (4, .inl K), (3, .inr (.inr 17)), (0, .inr (.inr 0)), (1, .inl 1), (2, .inl q)] [.inl (i : Int), .inr (.inr 25), .inl (i : Int), .inr (.inr 17)] (sw_pf σ 18 (fun j : Nat => sw_cv (σ 17 2) (σ 25 j)) i) rfl ?_
      refine sw_iald k_X7_plan rfl (i := 25) (n := 400) rfl (by decide) (by omega) (by omega) 102 rfl ?_
      refine sw_blk k_X7_plan 0 102 [(5, .inl (i : Int)), (4, .inl K), (3, .inr (.inr 17)), (0, .inr (.inr 0)), (1, .inl 1), (2, .inl q)] [.inl ((sw_pf σ 18 (fun j : Nat => sw_cv (σ 17 2) (σ 25 j)) i) 25 i), .inl (i : Int), .inr (.inr 17)] (sw_pf σ 18 (fun j : Nat => sw_cv (σ 17 2) (σ 25 j)) i) rfl ?_
      refine sw_callV k_X7_plan rfl cV_X4_store ml_X7_241 ⟨by decide, by decide⟩ 17 rfl rfl [.inl (i : Int), .inl ((sw_pf σ 18 (fun j : Nat => sw_cv (σ 17 2) (σ 25 j)) i) 25 i)] [] rfl rfl (Nat.le_of_ble_eq_true rfl) 105 rfl (sp_store1 (sw_pf σ 18 (fun j : Nat => sw_cv (σ 17 2) (σ 25 j)) i) (sw_pf_gs hσ 18 i (fun j _ => sw_cv_g (hσ 25 _))) (i : Int) ((sw_pf σ 18 (fun j : Nat => sw_cv (σ 17 2) (σ 25 j)) i) 25 i) (by omega) hfm) (fun r2 σ3 hq4 => ?_)
      obtain ⟨rfl, rfl⟩ := hq4
      refine sw_blk k_X7_plan 2 85 [(5, .inl ((i : Int) + 1)), (4, .inl K), (3, .inr (.inr 17)), (0, .inr (.inr 0)), (1, .inl 1), (2, .inl q)] [] (sw_u (sw_pf σ 18 (fun j : Nat => sw_cv (σ 17 2) (σ 25 j)) i) 18 i (sw_cv (σ 17 2) ((sw_pf σ 18 (fun j : Nat => sw_cv (σ 17 2) (σ 25 j)) i) 25 i))) rfl ?_
      rw [sw_pf_s σ 18 (fun j : Nat => sw_cv (σ 17 2) (σ 25 j)) i (by rw [sw_pf_row σ _ _ (by decide)])]
      exact ih (i + 1) (by omega) (by omega)
theorem cc_plan1 (σ : sw_S) (hσ : sw_gs σ) (hD : 10 ≤ σ 1 0 ∧ σ 1 0 ≤ 400) (hV : 1 ≤ σ 1 1 ∧ σ 1 1 ≤ 20) (hA : 1 ≤ σ 1 2 ∧ σ 1 2 ≤ 5) (hL : ∀ x : Int, 0 ≤ x → x ≤ σ 1 0 → 1 ≤ σ 2 x.toNat ∧ σ 2 x.toNat ≤ σ 1 1) (hf : sw_fn σ) (hpl : 0 ≤ σ 5 7 ∧ σ 5 7 ≤ σ 1 0) (hs0 : 0 ≤ σ 17 3) (hs1 : σ 17 3 ≤ 60) (hfm : 0 ≤ σ 17 2 ∧ σ 17 2 ≤ 2) (q : Int) (gq : sw_g q) : sw_Con sw_ly sw_rho M_X7_plan [.inr (.inr 0), .inl 1, .inl q] σ (fun r σ' => (¬ (0 ≤ q ∧ q ≤ σ 1 0) ∧ r = some (.inl (-2)) ∧ σ = σ') ∨ (((0 ≤ q ∧ q ≤ σ 1 0) ∧ ¬ σ 5 9 = 0) ∧ r = some (.inl (-4)) ∧ σ = σ') ∨ (((0 ≤ q ∧ q ≤ σ 1 0) ∧ σ 5 9 = 0 ∧ ¬ σ 17 1 = 0) ∧ r = some (.inl (-10 - 1)) ∧ sw_u σ 0 9 1 = σ') ∨ (((0 ≤ q ∧ q ≤ σ 1 0) ∧ σ 5 9 = 0 ∧ σ 17 1 = 0) ∧ ∃ (n : Nat) (τ : sw_S), sw_fkc 25 σ τ ∧ sw_gs τ ∧ sw_fn τ ∧ sw_isr (σ 2) (σ 1 0) (σ 1 1) (σ 1 2) (σ 5 7) q n (τ 25) ∧ r = some (.inl (min (n : Int) (σ 17 3))) ∧ sw_pf τ 18 (fun j : Nat => sw_cv (σ 17 2) (τ 25 j)) (min (n : Int) (σ 17 3)).toNat = σ')) := by
  refine sw_con (by decide) (Nat.le_of_ble_eq_true rfl) ?_
  refine sw_blk k_X7_plan 1 1 [(0, .inr (.inr 0)), (1, .inl 1), (2, .inl q)] [.inl 1] σ rfl ?_
  refine sw_callS k_X7_plan rfl cS_X7_isSheet ml_X7_219 ⟨by decide, by decide⟩ [.inl 1] [] rfl rfl (Nat.le_of_ble_eq_true rfl) 4 rfl (sp_isSheet σ 1 (by decide)) (fun r2 σ3 hq4 => ?_)
  obtain ⟨rfl, ⟨p1, rfl⟩ | ⟨p1, rfl⟩⟩ := hq4
  · refine sw_blk k_X7_plan 0 4 [(0, .inr (.inr 0)), (1, .inl 1), (2, .inl q)] [.inl 1] σ rfl ?_
    refine sw_if_eq k_X7_plan rfl (by decide) 18 7 (by decide) rfl (fun c => absurd c (by decide)) (fun _ => ?_)
    refine sw_blk k_X7_plan 3 12 [(0, .inr (.inr 0)), (1, .inl 1), (2, .inl q)] [.inl q, .inr (.inr 1)] σ rfl ?_
    refine sw_callV k_X7_plan rfl cV_X3_has ml_X7_85 ⟨by decide, by decide⟩ 1 rfl rfl [.inl q] [] rfl rfl (Nat.le_of_ble_eq_true rfl) 15 rfl (sp_has σ q (by omega) (hσ 1 0)) (fun r6 σ7 hq8 => ?_)
    obtain ⟨rfl, ⟨p5, rfl⟩ | ⟨p5, rfl⟩⟩ := hq8
    · have p5 : 0 ≤ q ∧ q ≤ (σ 1 0) := p5
      refine sw_blk k_X7_plan 0 15 [(0, .inr (.inr 0)), (1, .inl 1), (2, .inl q)] [.inl 1] σ rfl ?_
      refine sw_if_ne k_X7_plan rfl (by decide) 21 18 (by decide) rfl (fun _ => ?_) (fun c => absurd c (by decide))
      refine sw_blk k_X7_plan 2 25 [(0, .inr (.inr 0)), (1, .inl 1), (2, .inl q)] [.inr (.inr 5)] σ rfl ?_
      refine sw_callV k_X7_plan rfl cV_X6_rests ml_X7_67 ⟨by decide, by decide⟩ 5 rfl rfl [] [] rfl rfl (Nat.le_of_ble_eq_true rfl) 28 rfl (sp_rests σ  (hσ 5 _)) (fun r10 σ11 hq12 => ?_)
      obtain ⟨rfl, ⟨p9, rfl⟩ | ⟨p9, rfl⟩⟩ := hq12
      · refine sw_blk k_X7_plan 0 28 [(0, .inr (.inr 0)), (1, .inl 1), (2, .inl q)] [.inl 1] σ rfl ?_
        refine sw_if_ne k_X7_plan rfl (by decide) 34 31 (by decide) rfl (fun _ => ?_) (fun c => absurd c (by decide))
        refine sw_blk k_X7_plan 3 39 [(0, .inr (.inr 0)), (1, .inl 1), (2, .inl q)] [.inl 1, .inr (.inr 14)] σ rfl ?_
        refine sw_aald k_X7_plan rfl (i := 14) (n := 4) (r := 17) rfl (by decide) (by decide) (by decide) rfl 40 rfl ?_
        refine sw_blk k_X7_plan 3 45 [(3, .inr (.inr 17)), (0, .inr (.inr 0)), (1, .inl 1), (2, .inl q)] [.inl (σ 17 1)] σ rfl ?_
        refine sw_if_eq k_X7_plan rfl (hσ 17 _) 54 48 (by decide) rfl (fun c13 => ?_) (fun c13 => ?_)
        · refine sw_blk k_X7_plan 8 70 [(3, .inr (.inr 17)), (0, .inr (.inr 0)), (1, .inl 1), (2, .inl q)] [.inr (.inr 25), .inl q, .inl (σ 5 7), .inr (.inr 3)] σ rfl ?_
          refine sw_callV k_X7_plan rfl cV_X1_trace ml_X7_102 ⟨by decide, by decide⟩ 3 rfl rfl [.inl (σ 5 7), .inl q, .inr (.inr 25)] [] rfl rfl (Nat.le_of_ble_eq_true rfl) 73 rfl (sp_tracea σ hσ hD hV hA hL (σ 5 7) q (by omega) (by omega) hf) (fun r14 σ15 hq16 => ?_)
          obtain ⟨fk1, fk2, fk3, nn, rfl, nn1, nn2, nn3, nn4⟩ := hq16
          have hisr : sw_isr (σ 2) (σ 1 0) (σ 1 1) (σ 1 2) (σ 5 7) q nn _ := ⟨⟨nn1, nn2, nn3⟩, nn4⟩
          refine sw_blk k_X7_plan 2 77 [(3, .inr (.inr 17)), (0, .inr (.inr 0)), (1, .inl 1), (2, .inl q)] [.inl (σ15 17 3), .inl (nn : Int)] σ15 rfl ?_
          have eo : σ15 17 = σ 17 := funext fun j => fk1 17 j (by decide) (by decide) (fun z => absurd z (by decide))
          refine sw_callS k_X7_plan rfl cS_J9_min_7cf53 ml_X7_265 ⟨by decide, by decide⟩ [.inl (nn : Int), .inl (σ15 17 3)] [] rfl rfl (Nat.le_of_ble_eq_true rfl) 80 rfl (sp_min σ15 (nn : Int) (σ15 17 3) (by omega) (fk2 17 3)) (fun r17 σ18 hq19 => ?_)
          obtain ⟨rfl, rfl⟩ := hq19
          refine sw_blk k_X7_plan 3 85 [(5, .inl 0), (4, .inl (min (nn : Int) (σ15 17 3))), (3, .inr (.inr 17)), (0, .inr (.inr 0)), (1, .inl 1), (2, .inl q)] [] σ15 rfl ?_
          have h := lp_plan1 σ15 fk2 (by rw [eo]; exact hs0) (by rw [eo]; exact hs1) (by rw [eo]; exact hfm) (min (nn : Int) (σ15 17 3)) q (by rw [eo]; omega) (fun r σ' => (¬ (0 ≤ q ∧ q ≤ σ 1 0) ∧ r = some (.inl (-2)) ∧ σ = σ') ∨ (((0 ≤ q ∧ q ≤ σ 1 0) ∧ ¬ σ 5 9 = 0) ∧ r = some (.inl (-4)) ∧ σ = σ') ∨ (((0 ≤ q ∧ q ≤ σ 1 0) ∧ σ 5 9 = 0 ∧ ¬ σ 17 1 = 0) ∧ r = some (.inl (-10 - 1)) ∧ sw_u σ 0 9 1 = σ') ∨ (((0 ≤ q ∧ q ≤ σ 1 0) ∧ σ 5 9 = 0 ∧ σ 17 1 = 0) ∧ ∃ (n : Nat) (τ : sw_S), sw_fkc 25 σ τ ∧ sw_gs τ ∧ sw_fn τ ∧ sw_isr (σ 2) (σ 1 0) (σ 1 1) (σ 1 2) (σ 5 7) q n (τ 25) ∧ r = some (.inl (min (n : Int) (σ 17 3))) ∧ sw_pf τ 18 (fun j : Nat => sw_cv (σ 17 2) (τ 25 j)) (min (n : Int) (σ 17 3)).toNat = σ')) (Or.inr (Or.inr (Or.inr ⟨by omega, nn, σ15, fk1, fk2, fk3, hisr, by rw [eo], by rw [eo]⟩))) 62 0 (by rw [eo]; omega) (by omega)
          rw [sw_pf_0] at h
          exact h
        · refine sw_blk k_X7_plan 2 50 [(3, .inr (.inr 17)), (0, .inr (.inr 0)), (1, .inl 1), (2, .inl q)] [.inl 1, .inr (.inr 0)] σ rfl ?_
          refine sw_callV k_X7_plan rfl cV_X7_finding ml_X7_225 ⟨by decide, by decide⟩ 0 rfl rfl [.inl 1] [] rfl rfl (Nat.le_of_ble_eq_true rfl) 53 rfl (sp_finding σ 1) (fun r20 σ21 hq22 => ?_)
          obtain ⟨rfl, rfl⟩ := hq22
          refine sw_blk k_X7_plan 0 53 [(3, .inr (.inr 17)), (0, .inr (.inr 0)), (1, .inl 1), (2, .inl q)] [.inl (-10 - 1)] (sw_u σ 0 9 1) rfl ?_
          refine sw_ireturn k_X7_plan rfl rfl ?_
          exact Or.inr (Or.inr (Or.inl ⟨by omega, rfl, rfl⟩))
      · refine sw_blk k_X7_plan 0 28 [(0, .inr (.inr 0)), (1, .inl 1), (2, .inl q)] [.inl 0] σ rfl ?_
        refine sw_if_ne k_X7_plan rfl (by decide) 34 31 (by decide) rfl (fun c => absurd (by decide) c) (fun _ => ?_)
        refine sw_blk k_X7_plan 1 33 [(0, .inr (.inr 0)), (1, .inl 1), (2, .inl q)] [.inl (-4)] σ rfl ?_
        refine sw_ireturn k_X7_plan rfl rfl ?_
        exact Or.inr (Or.inl ⟨by omega, rfl, rfl⟩)
    · have p5 : ¬ (0 ≤ q ∧ q ≤ (σ 1 0)) := p5
      refine sw_blk k_X7_plan 0 15 [(0, .inr (.inr 0)), (1, .inl 1), (2, .inl q)] [.inl 0] σ rfl ?_
      refine sw_if_ne k_X7_plan rfl (by decide) 21 18 (by decide) rfl (fun c => absurd (by decide) c) (fun _ => ?_)
      refine sw_blk k_X7_plan 1 20 [(0, .inr (.inr 0)), (1, .inl 1), (2, .inl q)] [.inl (-2)] σ rfl ?_
      refine sw_ireturn k_X7_plan rfl rfl ?_
      exact Or.inl ⟨by omega, rfl, rfl⟩
  · exact absurd (by decide) p1
theorem lp_write2 (σ : sw_S) (hσ : sw_gs σ) (hs0 : 0 ≤ σ 19 3) (hs1 : σ 19 3 ≤ 60) (hfm : 0 ≤ σ 19 2 ∧ σ 19 2 ≤ 2) (h61 : 0 ≤ σ 6 1 ∧ σ 6 1 < 1000000) (K w : Int) (hK : 0 ≤ K ∧ K ≤ 40 ∧ K ≤ 60 ∧ K ≤ σ 6 1) (hK2 : K ≤ σ 19 3) (hw : 0 ≤ w ∧ w ≤ 2) (Q : Option sw_Vl → sw_S → Prop) (hQ : Q (some (.inl K)) (sw_pf σ 20 (fun j : Nat => sw_cv (σ 19 2) (σ 7 ((σ 6 1 - 1 - (K - 1 - (j : Int))) % 40 * 3 + w).toNat)) K.toNat)) : ∀ (n : Nat) (i : Nat), (i : Int) ≤ K → 61 - i < n → sw_E sw_ly sw_rho M_X7_write 61 [(5, .inl (i : Int)), (4, .inl K), (3, .inr (.inr 19)), (0, .inr (.inr 0)), (1, .inl 2), (2, .inl w)] [] (sw_pf σ 20 (fun j : Nat => sw_cv (σ 19 2) (σ 7 ((σ 6 1 - 1 - (K - 1 - (j : Int))) % 40 * 3 + w).toNat)) i) Q := by
  intro n
  induction n with
  | zero =>
    intro i hi hn
    omega
  | succ n ih =>
    intro i hi hn
    refine sw_blk k_X7_write 2 65 [(5, .inl (i : Int)), (4, .inl K), (3, .inr (.inr 19)), (0, .inr (.inr 0)), (1, .inl 2), (2, .inl w)] [.inl K, .inl (i : Int)] (sw_pf σ 20 (fun j : Nat => sw_cv (σ 19 2) (σ 7 ((σ 6 1 - 1 - (K - 1 - (j : Int))) % 40 * 3 + w).toNat)) i) rfl ?_
    refine sw_icmp_ge k_X7_write rfl (by omega) (by omega) 98 68 (by decide) rfl (fun c1 => ?_) (fun c1 => ?_)
    · refine sw_blk k_X7_write 1 100 [(5, .inl (i : Int)), (4, .inl K), (3, .inr (.inr 19)), (0, .inr (.inr 0)), (1, .inl 2), (2, .inl w)] [.inl K] (sw_pf σ 20 (fun j : Nat => sw_cv (σ 19 2) (σ 7 ((σ 6 1 - 1 - (K - 1 - (j : Int))) % 40 * 3 + w).toNat)) i) rfl ?_
      refine sw_ireturn k_X7_write rfl rfl ?_
      have e : K.toNat = i := by omega
      rw [e] at hQ
      exact hQ
    · refine sw_blk k_X7_write 11 86 [(5, .inl (i : Int)), (4, .inl K), (3, .inr (.inr 19)), (0, .inr (.inr 0)), (1, .inl 2), (2, .inl w)] [.inl w, .inl ((K - 1) - (i : Int)), .inr (.inr 6), .inl (i : Int), .inr (.inr 19)] (sw_pf σ 20 (fun j : Nat => sw_cv (σ 19 2) (σ 7 ((σ 6 1 - 1 - (K - 1 - (j : Int))) % 40 * 3 + w).toNat)) i) rfl ?_
      refine sw_callV k_X7_write rfl cV_X5_latest ml_X7_216 ⟨by decide, by decide⟩ 6 rfl rfl [.inl ((K - 1) - (i : Int)), .inl w] [.inl (i : Int), .inr (.inr 19)] rfl rfl (Nat.le_of_ble_eq_true rfl) 89 rfl (sp_latest (sw_pf σ 20 (fun j : Nat => sw_cv (σ 19 2) (σ 7 ((σ 6 1 - 1 - (K - 1 - (j : Int))) % 40 * 3 + w).toNat)) i) (K - 1 - (i : Int)) w (by omega) (by omega) (show K - 1 - (i : Int) < σ 6 1 by omega) h61.2) (fun r2 σ3 hq4 => ?_)
      obtain ⟨rfl, rfl⟩ := hq4
      refine sw_blk k_X7_write 0 89 [(5, .inl (i : Int)), (4, .inl K), (3, .inr (.inr 19)), (0, .inr (.inr 0)), (1, .inl 2), (2, .inl w)] [.inl (σ 7 ((σ 6 1 - 1 - (K - 1 - (i : Int))) % 40 * 3 + w).toNat), .inl (i : Int), .inr (.inr 19)] (sw_pf σ 20 (fun j : Nat => sw_cv (σ 19 2) (σ 7 ((σ 6 1 - 1 - (K - 1 - (j : Int))) % 40 * 3 + w).toNat)) i) rfl ?_
      refine sw_callV k_X7_write rfl cV_X4_store ml_X7_241 ⟨by decide, by decide⟩ 19 rfl rfl [.inl (i : Int), .inl (σ 7 ((σ 6 1 - 1 - (K - 1 - (i : Int))) % 40 * 3 + w).toNat)] [] rfl rfl (Nat.le_of_ble_eq_true rfl) 92 rfl (sp_store2 (sw_pf σ 20 (fun j : Nat => sw_cv (σ 19 2) (σ 7 ((σ 6 1 - 1 - (K - 1 - (j : Int))) % 40 * 3 + w).toNat)) i) (sw_pf_gs hσ 20 i (fun j _ => sw_cv_g (hσ 7 _))) (i : Int) (σ 7 ((σ 6 1 - 1 - (K - 1 - (i : Int))) % 40 * 3 + w).toNat) (by omega) hfm) (fun r5 σ6 hq7 => ?_)
      obtain ⟨rfl, rfl⟩ := hq7
      refine sw_blk k_X7_write 2 61 [(5, .inl ((i : Int) + 1)), (4, .inl K), (3, .inr (.inr 19)), (0, .inr (.inr 0)), (1, .inl 2), (2, .inl w)] [] (sw_u (sw_pf σ 20 (fun j : Nat => sw_cv (σ 19 2) (σ 7 ((σ 6 1 - 1 - (K - 1 - (j : Int))) % 40 * 3 + w).toNat)) i) 20 i (sw_cv (σ 19 2) (σ 7 ((σ 6 1 - 1 - (K - 1 - (i : Int))) % 40 * 3 + w).toNat))) rfl ?_
      rw [sw_pf_s σ 20 (fun j : Nat => sw_cv (σ 19 2) (σ 7 ((σ 6 1 - 1 - (K - 1 - (j : Int))) % 40 * 3 + w).toNat)) i rfl]
      exact ih (i + 1) (by omega) (by omega)
theorem cc_write2 (σ : sw_S) (hσ : sw_gs σ) (hs0 : 0 ≤ σ 19 3) (hs1 : σ 19 3 ≤ 60) (hfm : 0 ≤ σ 19 2 ∧ σ 19 2 ≤ 2) (h61 : 0 ≤ σ 6 1 ∧ σ 6 1 < 1000000) (w : Int) (gw : sw_g w) : sw_Con sw_ly sw_rho M_X7_write [.inr (.inr 0), .inl 2, .inl w] σ (fun r σ' => (¬ (0 ≤ w ∧ w ≤ 2) ∧ r = some (.inl (-2)) ∧ σ = σ') ∨ (((0 ≤ w ∧ w ≤ 2) ∧ ¬ σ 19 1 = 0) ∧ r = some (.inl (-10 - 1)) ∧ sw_u σ 0 9 1 = σ') ∨ (((0 ≤ w ∧ w ≤ 2) ∧ σ 19 1 = 0) ∧ r = some (.inl (min (min (σ 6 1) 40) (σ 19 3))) ∧ sw_pf σ 20 (fun j : Nat => sw_cv (σ 19 2) (σ 7 ((σ 6 1 - 1 - ((min (min (σ 6 1) 40) (σ 19 3)) - 1 - (j : Int))) % 40 * 3 + w).toNat)) (min (min (σ 6 1) 40) (σ 19 3)).toNat = σ')) := by
  refine sw_con (by decide) (Nat.le_of_ble_eq_true rfl) ?_
  refine sw_blk k_X7_write 1 1 [(0, .inr (.inr 0)), (1, .inl 2), (2, .inl w)] [.inl 2] σ rfl ?_
  refine sw_callS k_X7_write rfl cS_X7_isSheet ml_X7_219 ⟨by decide, by decide⟩ [.inl 2] [] rfl rfl (Nat.le_of_ble_eq_true rfl) 4 rfl (sp_isSheet σ 2 (by decide)) (fun r2 σ3 hq4 => ?_)
  obtain ⟨rfl, ⟨p1, rfl⟩ | ⟨p1, rfl⟩⟩ := hq4
  · refine sw_blk k_X7_write 0 4 [(0, .inr (.inr 0)), (1, .inl 2), (2, .inl w)] [.inl 1] σ rfl ?_
    refine sw_if_eq k_X7_write rfl (by decide) 16 7 (by decide) rfl (fun c => absurd c (by decide)) (fun _ => ?_)
    refine sw_blk k_X7_write 3 10 [(0, .inr (.inr 0)), (1, .inl 2), (2, .inl w)] [.inl 2, .inl 0, .inl w] σ rfl ?_
    refine sw_callS k_X7_write rfl cS_X7_within ml_X7_63 ⟨by decide, by decide⟩ [.inl w, .inl 0, .inl 2] [] rfl rfl (Nat.le_of_ble_eq_true rfl) 13 rfl (sp_within σ w 0 2 (by omega) (by decide) (by decide)) (fun r6 σ7 hq8 => ?_)
    obtain ⟨rfl, ⟨p5, rfl⟩ | ⟨p5, rfl⟩⟩ := hq8
    · refine sw_blk k_X7_write 0 13 [(0, .inr (.inr 0)), (1, .inl 2), (2, .inl w)] [.inl 1] σ rfl ?_
      refine sw_if_ne k_X7_write rfl (by decide) 19 16 (by decide) rfl (fun _ => ?_) (fun c => absurd c (by decide))
      refine sw_blk k_X7_write 3 24 [(0, .inr (.inr 0)), (1, .inl 2), (2, .inl w)] [.inl 2, .inr (.inr 14)] σ rfl ?_
      refine sw_aald k_X7_write rfl (i := 14) (n := 4) (r := 19) rfl (by decide) (by decide) (by decide) rfl 25 rfl ?_
      refine sw_blk k_X7_write 3 30 [(3, .inr (.inr 19)), (0, .inr (.inr 0)), (1, .inl 2), (2, .inl w)] [.inl (σ 19 1)] σ rfl ?_
      refine sw_if_eq k_X7_write rfl (hσ 19 _) 39 33 (by decide) rfl (fun c9 => ?_) (fun c9 => ?_)
      · refine sw_blk k_X7_write 3 46 [(3, .inr (.inr 19)), (0, .inr (.inr 0)), (1, .inl 2), (2, .inl w)] [.inr (.inr 6)] σ rfl ?_
        refine sw_callV k_X7_write rfl cV_X5_size ml_X7_213 ⟨by decide, by decide⟩ 6 rfl rfl [] [] rfl rfl (Nat.le_of_ble_eq_true rfl) 49 rfl (sp_size σ  (hσ 6 _)) (fun r10 σ11 hq12 => ?_)
        obtain ⟨rfl, rfl⟩ := hq12
        refine sw_blk k_X7_write 2 53 [(3, .inr (.inr 19)), (0, .inr (.inr 0)), (1, .inl 2), (2, .inl w)] [.inl (σ 19 3), .inl (min (σ 6 1) 40)] σ rfl ?_
        refine sw_callS k_X7_write rfl cS_J9_min_7cf53 ml_X7_265 ⟨by decide, by decide⟩ [.inl (min (σ 6 1) 40), .inl (σ 19 3)] [] rfl rfl (Nat.le_of_ble_eq_true rfl) 56 rfl (sp_min σ (min (σ 6 1) 40) (σ 19 3) (by omega) (by omega)) (fun r13 σ14 hq15 => ?_)
        obtain ⟨rfl, rfl⟩ := hq15
        refine sw_blk k_X7_write 3 61 [(5, .inl 0), (4, .inl (min (min (σ 6 1) 40) (σ 19 3))), (3, .inr (.inr 19)), (0, .inr (.inr 0)), (1, .inl 2), (2, .inl w)] [] σ rfl ?_
        have h := lp_write2 σ hσ hs0 hs1 hfm h61 (min (min (σ 6 1) 40) (σ 19 3)) w (by omega) (by omega) (by omega) (fun r σ' => (¬ (0 ≤ w ∧ w ≤ 2) ∧ r = some (.inl (-2)) ∧ σ = σ') ∨ (((0 ≤ w ∧ w ≤ 2) ∧ ¬ σ 19 1 = 0) ∧ r = some (.inl (-10 - 1)) ∧ sw_u σ 0 9 1 = σ') ∨ (((0 ≤ w ∧ w ≤ 2) ∧ σ 19 1 = 0) ∧ r = some (.inl (min (min (σ 6 1) 40) (σ 19 3))) ∧ sw_pf σ 20 (fun j : Nat => sw_cv (σ 19 2) (σ 7 ((σ 6 1 - 1 - ((min (min (σ 6 1) 40) (σ 19 3)) - 1 - (j : Int))) % 40 * 3 + w).toNat)) (min (min (σ 6 1) 40) (σ 19 3)).toNat = σ')) (Or.inr (Or.inr ⟨by omega, rfl, rfl⟩)) 62 0 (by omega) (by omega)
        rw [sw_pf_0] at h
        exact h
      · refine sw_blk k_X7_write 2 35 [(3, .inr (.inr 19)), (0, .inr (.inr 0)), (1, .inl 2), (2, .inl w)] [.inl 1, .inr (.inr 0)] σ rfl ?_
        refine sw_callV k_X7_write rfl cV_X7_finding ml_X7_225 ⟨by decide, by decide⟩ 0 rfl rfl [.inl 1] [] rfl rfl (Nat.le_of_ble_eq_true rfl) 38 rfl (sp_finding σ 1) (fun r16 σ17 hq18 => ?_)
        obtain ⟨rfl, rfl⟩ := hq18
        refine sw_blk k_X7_write 0 38 [(3, .inr (.inr 19)), (0, .inr (.inr 0)), (1, .inl 2), (2, .inl w)] [.inl (-10 - 1)] (sw_u σ 0 9 1) rfl ?_
        refine sw_ireturn k_X7_write rfl rfl ?_
        exact Or.inr (Or.inl ⟨by omega, rfl, rfl⟩)
    · refine sw_blk k_X7_write 0 13 [(0, .inr (.inr 0)), (1, .inl 2), (2, .inl w)] [.inl 0] σ rfl ?_
      refine sw_if_ne k_X7_write rfl (by decide) 19 16 (by decide) rfl (fun c => absurd (by decide) c) (fun _ => ?_)
      refine sw_blk k_X7_write 1 18 [(0, .inr (.inr 0)), (1, .inl 2), (2, .inl w)] [.inl (-2)] σ rfl ?_
      refine sw_ireturn k_X7_write rfl rfl ?_
      exact Or.inl ⟨by omega, rfl, rfl⟩
  · exact absurd (by decide) p1
theorem lp_plan2 (σ : sw_S) (hσ : sw_gs σ) (hs0 : 0 ≤ σ 19 3) (hs1 : σ 19 3 ≤ 60) (hfm : 0 ≤ σ 19 2 ∧ σ 19 2 ≤ 2) (K q : Int) (hK : 0 ≤ K ∧ K ≤ 60) (Q : Option sw_Vl → sw_S → Prop) (hQ : Q (some (.inl K)) (sw_pf σ 20 (fun j : Nat => sw_cv (σ 19 2) (σ 25 j)) K.toNat)) : ∀ (n : Nat) (i : Nat), (i : Int) ≤ K → 61 - i < n → sw_E sw_ly sw_rho M_X7_plan 85 [(5, .inl (i : Int)), (4, .inl K), (3, .inr (.inr 19)), (0, .inr (.inr 0)), (1, .inl 2), (2, .inl q)] [] (sw_pf σ 20 (fun j : Nat => sw_cv (σ 19 2) (σ 25 j)) i) Q := by
  intro n
  induction n with
  | zero =>
    intro i hi hn
    omega
  | succ n ih =>
    intro i hi hn
    refine sw_blk k_X7_plan 2 89 [(5, .inl (i : Int)), (4, .inl K), (3, .inr (.inr 19)), (0, .inr (.inr 0)), (1, .inl 2), (2, .inl q)] [.inl K, .inl (i : Int)] (sw_pf σ 20 (fun j : Nat => sw_cv (σ 19 2) (σ 25 j)) i) rfl ?_
    refine sw_icmp_ge k_X7_plan rfl (by omega) (by omega) 111 92 (by decide) rfl (fun c1 => ?_) (fun c1 => ?_)
    · refine sw_blk k_X7_plan 1 113 [(5, .inl (i : Int)), (4, .inl K), (3, .inr (.inr 19)), (0, .inr (.inr 0)), (1, .inl 2), (2, .inl q)] [.inl K] (sw_pf σ 20 (fun j : Nat => sw_cv (σ 19 2) (σ 25 j)) i) rfl ?_
      refine sw_ireturn k_X7_plan rfl rfl ?_
      have e : K.toNat = i := by omega
      rw [e] at hQ
      exact hQ
    · refine sw_blk k_X7_plan 5 101 [(5, .inl (i : Int)), (4, .inl K), (3, .inr (.inr 19)), (0, .inr (.inr 0)), (1, .inl 2), (2, .inl q)] [.inl (i : Int), .inr (.inr 25), .inl (i : Int), .inr (.inr 19)] (sw_pf σ 20 (fun j : Nat => sw_cv (σ 19 2) (σ 25 j)) i) rfl ?_
      refine sw_iald k_X7_plan rfl (i := 25) (n := 400) rfl (by decide) (by omega) (by omega) 102 rfl ?_
      refine sw_blk k_X7_plan 0 102 [(5, .inl (i : Int)), (4, .inl K), (3, .inr (.inr 19)), (0, .inr (.inr 0)), (1, .inl 2), (2, .inl q)] [.inl ((sw_pf σ 20 (fun j : Nat => sw_cv (σ 19 2) (σ 25 j)) i) 25 i), .inl (i : Int), .inr (.inr 19)] (sw_pf σ 20 (fun j : Nat => sw_cv (σ 19 2) (σ 25 j)) i) rfl ?_
      refine sw_callV k_X7_plan rfl cV_X4_store ml_X7_241 ⟨by decide, by decide⟩ 19 rfl rfl [.inl (i : Int), .inl ((sw_pf σ 20 (fun j : Nat => sw_cv (σ 19 2) (σ 25 j)) i) 25 i)] [] rfl rfl (Nat.le_of_ble_eq_true rfl) 105 rfl (sp_store2 (sw_pf σ 20 (fun j : Nat => sw_cv (σ 19 2) (σ 25 j)) i) (sw_pf_gs hσ 20 i (fun j _ => sw_cv_g (hσ 25 _))) (i : Int) ((sw_pf σ 20 (fun j : Nat => sw_cv (σ 19 2) (σ 25 j)) i) 25 i) (by omega) hfm) (fun r2 σ3 hq4 => ?_)
      obtain ⟨rfl, rfl⟩ := hq4
      refine sw_blk k_X7_plan 2 85 [(5, .inl ((i : Int) + 1)), (4, .inl K), (3, .inr (.inr 19)), (0, .inr (.inr 0)), (1, .inl 2), (2, .inl q)] [] (sw_u (sw_pf σ 20 (fun j : Nat => sw_cv (σ 19 2) (σ 25 j)) i) 20 i (sw_cv (σ 19 2) ((sw_pf σ 20 (fun j : Nat => sw_cv (σ 19 2) (σ 25 j)) i) 25 i))) rfl ?_
      rw [sw_pf_s σ 20 (fun j : Nat => sw_cv (σ 19 2) (σ 25 j)) i (by rw [sw_pf_row σ _ _ (by decide)])]
      exact ih (i + 1) (by omega) (by omega)
theorem cc_plan2 (σ : sw_S) (hσ : sw_gs σ) (hD : 10 ≤ σ 1 0 ∧ σ 1 0 ≤ 400) (hV : 1 ≤ σ 1 1 ∧ σ 1 1 ≤ 20) (hA : 1 ≤ σ 1 2 ∧ σ 1 2 ≤ 5) (hL : ∀ x : Int, 0 ≤ x → x ≤ σ 1 0 → 1 ≤ σ 2 x.toNat ∧ σ 2 x.toNat ≤ σ 1 1) (hf : sw_fn σ) (hpl : 0 ≤ σ 5 7 ∧ σ 5 7 ≤ σ 1 0) (hs0 : 0 ≤ σ 19 3) (hs1 : σ 19 3 ≤ 60) (hfm : 0 ≤ σ 19 2 ∧ σ 19 2 ≤ 2) (q : Int) (gq : sw_g q) : sw_Con sw_ly sw_rho M_X7_plan [.inr (.inr 0), .inl 2, .inl q] σ (fun r σ' => (¬ (0 ≤ q ∧ q ≤ σ 1 0) ∧ r = some (.inl (-2)) ∧ σ = σ') ∨ (((0 ≤ q ∧ q ≤ σ 1 0) ∧ ¬ σ 5 9 = 0) ∧ r = some (.inl (-4)) ∧ σ = σ') ∨ (((0 ≤ q ∧ q ≤ σ 1 0) ∧ σ 5 9 = 0 ∧ ¬ σ 19 1 = 0) ∧ r = some (.inl (-10 - 1)) ∧ sw_u σ 0 9 1 = σ') ∨ (((0 ≤ q ∧ q ≤ σ 1 0) ∧ σ 5 9 = 0 ∧ σ 19 1 = 0) ∧ ∃ (n : Nat) (τ : sw_S), sw_fkc 25 σ τ ∧ sw_gs τ ∧ sw_fn τ ∧ sw_isr (σ 2) (σ 1 0) (σ 1 1) (σ 1 2) (σ 5 7) q n (τ 25) ∧ r = some (.inl (min (n : Int) (σ 19 3))) ∧ sw_pf τ 20 (fun j : Nat => sw_cv (σ 19 2) (τ 25 j)) (min (n : Int) (σ 19 3)).toNat = σ')) := by
  refine sw_con (by decide) (Nat.le_of_ble_eq_true rfl) ?_
  refine sw_blk k_X7_plan 1 1 [(0, .inr (.inr 0)), (1, .inl 2), (2, .inl q)] [.inl 2] σ rfl ?_
  refine sw_callS k_X7_plan rfl cS_X7_isSheet ml_X7_219 ⟨by decide, by decide⟩ [.inl 2] [] rfl rfl (Nat.le_of_ble_eq_true rfl) 4 rfl (sp_isSheet σ 2 (by decide)) (fun r2 σ3 hq4 => ?_)
  obtain ⟨rfl, ⟨p1, rfl⟩ | ⟨p1, rfl⟩⟩ := hq4
  · refine sw_blk k_X7_plan 0 4 [(0, .inr (.inr 0)), (1, .inl 2), (2, .inl q)] [.inl 1] σ rfl ?_
    refine sw_if_eq k_X7_plan rfl (by decide) 18 7 (by decide) rfl (fun c => absurd c (by decide)) (fun _ => ?_)
    refine sw_blk k_X7_plan 3 12 [(0, .inr (.inr 0)), (1, .inl 2), (2, .inl q)] [.inl q, .inr (.inr 1)] σ rfl ?_
    refine sw_callV k_X7_plan rfl cV_X3_has ml_X7_85 ⟨by decide, by decide⟩ 1 rfl rfl [.inl q] [] rfl rfl (Nat.le_of_ble_eq_true rfl) 15 rfl (sp_has σ q (by omega) (hσ 1 0)) (fun r6 σ7 hq8 => ?_)
    obtain ⟨rfl, ⟨p5, rfl⟩ | ⟨p5, rfl⟩⟩ := hq8
    · have p5 : 0 ≤ q ∧ q ≤ (σ 1 0) := p5
      refine sw_blk k_X7_plan 0 15 [(0, .inr (.inr 0)), (1, .inl 2), (2, .inl q)] [.inl 1] σ rfl ?_
      refine sw_if_ne k_X7_plan rfl (by decide) 21 18 (by decide) rfl (fun _ => ?_) (fun c => absurd c (by decide))
      refine sw_blk k_X7_plan 2 25 [(0, .inr (.inr 0)), (1, .inl 2), (2, .inl q)] [.inr (.inr 5)] σ rfl ?_
      refine sw_callV k_X7_plan rfl cV_X6_rests ml_X7_67 ⟨by decide, by decide⟩ 5 rfl rfl [] [] rfl rfl (Nat.le_of_ble_eq_true rfl) 28 rfl (sp_rests σ  (hσ 5 _)) (fun r10 σ11 hq12 => ?_)
      obtain ⟨rfl, ⟨p9, rfl⟩ | ⟨p9, rfl⟩⟩ := hq12
      · refine sw_blk k_X7_plan 0 28 [(0, .inr (.inr 0)), (1, .inl 2), (2, .inl q)] [.inl 1] σ rfl ?_
        refine sw_if_ne k_X7_plan rfl (by decide) 34 31 (by decide) rfl (fun _ => ?_) (fun c => absurd c (by decide))
        refine sw_blk k_X7_plan 3 39 [(0, .inr (.inr 0)), (1, .inl 2), (2, .inl q)] [.inl 2, .inr (.inr 14)] σ rfl ?_
        refine sw_aald k_X7_plan rfl (i := 14) (n := 4) (r := 19) rfl (by decide) (by decide) (by decide) rfl 40 rfl ?_
        refine sw_blk k_X7_plan 3 45 [(3, .inr (.inr 19)), (0, .inr (.inr 0)), (1, .inl 2), (2, .inl q)] [.inl (σ 19 1)] σ rfl ?_
        refine sw_if_eq k_X7_plan rfl (hσ 19 _) 54 48 (by decide) rfl (fun c13 => ?_) (fun c13 => ?_)
        · refine sw_blk k_X7_plan 8 70 [(3, .inr (.inr 19)), (0, .inr (.inr 0)), (1, .inl 2), (2, .inl q)] [.inr (.inr 25), .inl q, .inl (σ 5 7), .inr (.inr 3)] σ rfl ?_
          refine sw_callV k_X7_plan rfl cV_X1_trace ml_X7_102 ⟨by decide, by decide⟩ 3 rfl rfl [.inl (σ 5 7), .inl q, .inr (.inr 25)] [] rfl rfl (Nat.le_of_ble_eq_true rfl) 73 rfl (sp_tracea σ hσ hD hV hA hL (σ 5 7) q (by omega) (by omega) hf) (fun r14 σ15 hq16 => ?_)
          obtain ⟨fk1, fk2, fk3, nn, rfl, nn1, nn2, nn3, nn4⟩ := hq16
          have hisr : sw_isr (σ 2) (σ 1 0) (σ 1 1) (σ 1 2) (σ 5 7) q nn _ := ⟨⟨nn1, nn2, nn3⟩, nn4⟩
          refine sw_blk k_X7_plan 2 77 [(3, .inr (.inr 19)), (0, .inr (.inr 0)), (1, .inl 2), (2, .inl q)] [.inl (σ15 19 3), .inl (nn : Int)] σ15 rfl ?_
          have eo : σ15 19 = σ 19 := funext fun j => fk1 19 j (by decide) (by decide) (fun z => absurd z (by decide))
          refine sw_callS k_X7_plan rfl cS_J9_min_7cf53 ml_X7_265 ⟨by decide, by decide⟩ [.inl (nn : Int), .inl (σ15 19 3)] [] rfl rfl (Nat.le_of_ble_eq_true rfl) 80 rfl (sp_min σ15 (nn : Int) (σ15 19 3) (by omega) (fk2 19 3)) (fun r17 σ18 hq19 => ?_)
          obtain ⟨rfl, rfl⟩ := hq19
          refine sw_blk k_X7_plan 3 85 [(5, .inl 0), (4, .inl (min (nn : Int) (σ15 19 3))), (3, .inr (.inr 19)), (0, .inr (.inr 0)), (1, .inl 2), (2, .inl q)] [] σ15 rfl ?_
          have h := lp_plan2 σ15 fk2 (by rw [eo]; exact hs0) (by rw [eo]; exact hs1) (by rw [eo]; exact hfm) (min (nn : Int) (σ15 19 3)) q (by rw [eo]; omega) (fun r σ' => (¬ (0 ≤ q ∧ q ≤ σ 1 0) ∧ r = some (.inl (-2)) ∧ σ = σ') ∨ (((0 ≤ q ∧ q ≤ σ 1 0) ∧ ¬ σ 5 9 = 0) ∧ r = some (.inl (-4)) ∧ σ = σ') ∨ (((0 ≤ q ∧ q ≤ σ 1 0) ∧ σ 5 9 = 0 ∧ ¬ σ 19 1 = 0) ∧ r = some (.inl (-10 - 1)) ∧ sw_u σ 0 9 1 = σ') ∨ (((0 ≤ q ∧ q ≤ σ 1 0) ∧ σ 5 9 = 0 ∧ σ 19 1 = 0) ∧ ∃ (n : Nat) (τ : sw_S), sw_fkc 25 σ τ ∧ sw_gs τ ∧ sw_fn τ ∧ sw_isr (σ 2) (σ 1 0) (σ 1 1) (σ 1 2) (σ 5 7) q n (τ 25) ∧ r = some (.inl (min (n : Int) (σ 19 3))) ∧ sw_pf τ 20 (fun j : Nat => sw_cv (σ 19 2) (τ 25 j)) (min (n : Int) (σ 19 3)).toNat = σ')) (Or.inr (Or.inr (Or.inr ⟨by omega, nn, σ15, fk1, fk2, fk3, hisr, by rw [eo], by rw [eo]⟩))) 62 0 (by rw [eo]; omega) (by omega)
          rw [sw_pf_0] at h
          exact h
        · refine sw_blk k_X7_plan 2 50 [(3, .inr (.inr 19)), (0, .inr (.inr 0)), (1, .inl 2), (2, .inl q)] [.inl 1, .inr (.inr 0)] σ rfl ?_
          refine sw_callV k_X7_plan rfl cV_X7_finding ml_X7_225 ⟨by decide, by decide⟩ 0 rfl rfl [.inl 1] [] rfl rfl (Nat.le_of_ble_eq_true rfl) 53 rfl (sp_finding σ 1) (fun r20 σ21 hq22 => ?_)
          obtain ⟨rfl, rfl⟩ := hq22
          refine sw_blk k_X7_plan 0 53 [(3, .inr (.inr 19)), (0, .inr (.inr 0)), (1, .inl 2), (2, .inl q)] [.inl (-10 - 1)] (sw_u σ 0 9 1) rfl ?_
          refine sw_ireturn k_X7_plan rfl rfl ?_
          exact Or.inr (Or.inr (Or.inl ⟨by omega, rfl, rfl⟩))
      · refine sw_blk k_X7_plan 0 28 [(0, .inr (.inr 0)), (1, .inl 2), (2, .inl q)] [.inl 0] σ rfl ?_
        refine sw_if_ne k_X7_plan rfl (by decide) 34 31 (by decide) rfl (fun c => absurd (by decide) c) (fun _ => ?_)
        refine sw_blk k_X7_plan 1 33 [(0, .inr (.inr 0)), (1, .inl 2), (2, .inl q)] [.inl (-4)] σ rfl ?_
        refine sw_ireturn k_X7_plan rfl rfl ?_
        exact Or.inr (Or.inl ⟨by omega, rfl, rfl⟩)
    · have p5 : ¬ (0 ≤ q ∧ q ≤ (σ 1 0)) := p5
      refine sw_blk k_X7_plan 0 15 [(0, .inr (.inr 0)), (1, .inl 2), (2, .inl q)] [.inl 0] σ rfl ?_
      refine sw_if_ne k_X7_plan rfl (by decide) 21 18 (by decide) rfl (fun c => absurd (by decide) c) (fun _ => ?_)
      refine sw_blk k_X7_plan 1 20 [(0, .inr (.inr 0)), (1, .inl 2), (2, .inl q)] [.inl (-2)] σ rfl ?_
      refine sw_ireturn k_X7_plan rfl rfl ?_
      exact Or.inl ⟨by omega, rfl, rfl⟩
  · exact absurd (by decide) p1
theorem lp_write3 (σ : sw_S) (hσ : sw_gs σ) (hs0 : 0 ≤ σ 21 3) (hs1 : σ 21 3 ≤ 60) (hfm : 0 ≤ σ 21 2 ∧ σ 21 2 ≤ 2) (h61 : 0 ≤ σ 6 1 ∧ σ 6 1 < 1000000) (K w : Int) (hK : 0 ≤ K ∧ K ≤ 40 ∧ K ≤ 60 ∧ K ≤ σ 6 1) (hK2 : K ≤ σ 21 3) (hw : 0 ≤ w ∧ w ≤ 2) (Q : Option sw_Vl → sw_S → Prop) (hQ : Q (some (.inl K)) (sw_pf σ 22 (fun j : Nat => sw_cv (σ 21 2) (σ 7 ((σ 6 1 - 1 - (K - 1 - (j : Int))) % 40 * 3 + w).toNat)) K.toNat)) : ∀ (n : Nat) (i : Nat), (i : Int) ≤ K → 61 - i < n → sw_E sw_ly sw_rho M_X7_write 61 [(5, .inl (i : Int)), (4, .inl K), (3, .inr (.inr 21)), (0, .inr (.inr 0)), (1, .inl 3), (2, .inl w)] [] (sw_pf σ 22 (fun j : Nat => sw_cv (σ 21 2) (σ 7 ((σ 6 1 - 1 - (K - 1 - (j : Int))) % 40 * 3 + w).toNat)) i) Q := by
  intro n
  induction n with
  | zero =>
    intro i hi hn
    omega
  | succ n ih =>
    intro i hi hn
    refine sw_blk k_X7_write 2 65 [(5, .inl (i : Int)), (4, .inl K), (3, .inr (.inr 21)), (0, .inr (.inr 0)), (1, .inl 3), (2, .inl w)] [.inl K, .inl (i : Int)] (sw_pf σ 22 (fun j : Nat => sw_cv (σ 21 2) (σ 7 ((σ 6 1 - 1 - (K - 1 - (j : Int))) % 40 * 3 + w).toNat)) i) rfl ?_
    refine sw_icmp_ge k_X7_write rfl (by omega) (by omega) 98 68 (by decide) rfl (fun c1 => ?_) (fun c1 => ?_)
    · refine sw_blk k_X7_write 1 100 [(5, .inl (i : Int)), (4, .inl K), (3, .inr (.inr 21)), (0, .inr (.inr 0)), (1, .inl 3), (2, .inl w)] [.inl K] (sw_pf σ 22 (fun j : Nat => sw_cv (σ 21 2) (σ 7 ((σ 6 1 - 1 - (K - 1 - (j : Int))) % 40 * 3 + w).toNat)) i) rfl ?_
      refine sw_ireturn k_X7_write rfl rfl ?_
      have e : K.toNat = i := by omega
      rw [e] at hQ
      exact hQ
    · refine sw_blk k_X7_write 11 86 [(5, .inl (i : Int)), (4, .inl K), (3, .inr (.inr 21)), (0, .inr (.inr 0)), (1, .inl 3), (2, .inl w)] [.inl w, .inl ((K - 1) - (i : Int)), .inr (.inr 6), .inl (i : Int), .inr (.inr 21)] (sw_pf σ 22 (fun j : Nat => sw_cv (σ 21 2) (σ 7 ((σ 6 1 - 1 - (K - 1 - (j : Int))) % 40 * 3 + w).toNat)) i) rfl ?_
      refine sw_callV k_X7_write rfl cV_X5_latest ml_X7_216 ⟨by decide, by decide⟩ 6 rfl rfl [.inl ((K - 1) - (i : Int)), .inl w] [.inl (i : Int), .inr (.inr 21)] rfl rfl (Nat.le_of_ble_eq_true rfl) 89 rfl (sp_latest (sw_pf σ 22 (fun j : Nat => sw_cv (σ 21 2) (σ 7 ((σ 6 1 - 1 - (K - 1 - (j : Int))) % 40 * 3 + w).toNat)) i) (K - 1 - (i : Int)) w (by omega) (by omega) (show K - 1 - (i : Int) < σ 6 1 by omega) h61.2) (fun r2 σ3 hq4 => ?_)
      obtain ⟨rfl, rfl⟩ := hq4
      refine sw_blk k_X7_write 0 89 [(5, .inl (i : Int)), (4, .inl K), (3, .inr (.inr 21)), (0, .inr (.inr 0)), (1, .inl 3), (2, .inl w)] [.inl (σ 7 ((σ 6 1 - 1 - (K - 1 - (i : Int))) % 40 * 3 + w).toNat), .inl (i : Int), .inr (.inr 21)] (sw_pf σ 22 (fun j : Nat => sw_cv (σ 21 2) (σ 7 ((σ 6 1 - 1 - (K - 1 - (j : Int))) % 40 * 3 + w).toNat)) i) rfl ?_
      refine sw_callV k_X7_write rfl cV_X4_store ml_X7_241 ⟨by decide, by decide⟩ 21 rfl rfl [.inl (i : Int), .inl (σ 7 ((σ 6 1 - 1 - (K - 1 - (i : Int))) % 40 * 3 + w).toNat)] [] rfl rfl (Nat.le_of_ble_eq_true rfl) 92 rfl (sp_store3 (sw_pf σ 22 (fun j : Nat => sw_cv (σ 21 2) (σ 7 ((σ 6 1 - 1 - (K - 1 - (j : Int))) % 40 * 3 + w).toNat)) i) (sw_pf_gs hσ 22 i (fun j _ => sw_cv_g (hσ 7 _))) (i : Int) (σ 7 ((σ 6 1 - 1 - (K - 1 - (i : Int))) % 40 * 3 + w).toNat) (by omega) hfm) (fun r5 σ6 hq7 => ?_)
      obtain ⟨rfl, rfl⟩ := hq7
      refine sw_blk k_X7_write 2 61 [(5, .inl ((i : Int) + 1)), (4, .inl K), (3, .inr (.inr 21)), (0, .inr (.inr 0)), (1, .inl 3), (2, .inl w)] [] (sw_u (sw_pf σ 22 (fun j : Nat => sw_cv (σ 21 2) (σ 7 ((σ 6 1 - 1 - (K - 1 - (j : Int))) % 40 * 3 + w).toNat)) i) 22 i (sw_cv (σ 21 2) (σ 7 ((σ 6 1 - 1 - (K - 1 - (i : Int))) % 40 * 3 + w).toNat))) rfl ?_
      rw [sw_pf_s σ 22 (fun j : Nat => sw_cv (σ 21 2) (σ 7 ((σ 6 1 - 1 - (K - 1 - (j : Int))) % 40 * 3 + w).toNat)) i rfl]
      exact ih (i + 1) (by omega) (by omega)
theorem cc_write3 (σ : sw_S) (hσ : sw_gs σ) (hs0 : 0 ≤ σ 21 3) (hs1 : σ 21 3 ≤ 60) (hfm : 0 ≤ σ 21 2 ∧ σ 21 2 ≤ 2) (h61 : 0 ≤ σ 6 1 ∧ σ 6 1 < 1000000) (w : Int) (gw : sw_g w) : sw_Con sw_ly sw_rho M_X7_write [.inr (.inr 0), .inl 3, .inl w] σ (fun r σ' => (¬ (0 ≤ w ∧ w ≤ 2) ∧ r = some (.inl (-2)) ∧ σ = σ') ∨ (((0 ≤ w ∧ w ≤ 2) ∧ ¬ σ 21 1 = 0) ∧ r = some (.inl (-10 - 1)) ∧ sw_u σ 0 9 1 = σ') ∨ (((0 ≤ w ∧ w ≤ 2) ∧ σ 21 1 = 0) ∧ r = some (.inl (min (min (σ 6 1) 40) (σ 21 3))) ∧ sw_pf σ 22 (fun j : Nat => sw_cv (σ 21 2) (σ 7 ((σ 6 1 - 1 - ((min (min (σ 6 1) 40) (σ 21 3)) - 1 - (j : Int))) % 40 * 3 + w).toNat)) (min (min (σ 6 1) 40) (σ 21 3)).toNat = σ')) := by
  refine sw_con (by decide) (Nat.le_of_ble_eq_true rfl) ?_
  refine sw_blk k_X7_write 1 1 [(0, .inr (.inr 0)), (1, .inl 3), (2, .inl w)] [.inl 3] σ rfl ?_
  refine sw_callS k_X7_write rfl cS_X7_isSheet ml_X7_219 ⟨by decide, by decide⟩ [.inl 3] [] rfl rfl (Nat.le_of_ble_eq_true rfl) 4 rfl (sp_isSheet σ 3 (by decide)) (fun r2 σ3 hq4 => ?_)
  obtain ⟨rfl, ⟨p1, rfl⟩ | ⟨p1, rfl⟩⟩ := hq4
  · refine sw_blk k_X7_write 0 4 [(0, .inr (.inr 0)), (1, .inl 3), (2, .inl w)] [.inl 1] σ rfl ?_
    refine sw_if_eq k_X7_write rfl (by decide) 16 7 (by decide) rfl (fun c => absurd c (by decide)) (fun _ => ?_)
    refine sw_blk k_X7_write 3 10 [(0, .inr (.inr 0)), (1, .inl 3), (2, .inl w)] [.inl 2, .inl 0, .inl w] σ rfl ?_
    refine sw_callS k_X7_write rfl cS_X7_within ml_X7_63 ⟨by decide, by decide⟩ [.inl w, .inl 0, .inl 2] [] rfl rfl (Nat.le_of_ble_eq_true rfl) 13 rfl (sp_within σ w 0 2 (by omega) (by decide) (by decide)) (fun r6 σ7 hq8 => ?_)
    obtain ⟨rfl, ⟨p5, rfl⟩ | ⟨p5, rfl⟩⟩ := hq8
    · refine sw_blk k_X7_write 0 13 [(0, .inr (.inr 0)), (1, .inl 3), (2, .inl w)] [.inl 1] σ rfl ?_
      refine sw_if_ne k_X7_write rfl (by decide) 19 16 (by decide) rfl (fun _ => ?_) (fun c => absurd c (by decide))
      refine sw_blk k_X7_write 3 24 [(0, .inr (.inr 0)), (1, .inl 3), (2, .inl w)] [.inl 3, .inr (.inr 14)] σ rfl ?_
      refine sw_aald k_X7_write rfl (i := 14) (n := 4) (r := 21) rfl (by decide) (by decide) (by decide) rfl 25 rfl ?_
      refine sw_blk k_X7_write 3 30 [(3, .inr (.inr 21)), (0, .inr (.inr 0)), (1, .inl 3), (2, .inl w)] [.inl (σ 21 1)] σ rfl ?_
      refine sw_if_eq k_X7_write rfl (hσ 21 _) 39 33 (by decide) rfl (fun c9 => ?_) (fun c9 => ?_)
      · refine sw_blk k_X7_write 3 46 [(3, .inr (.inr 21)), (0, .inr (.inr 0)), (1, .inl 3), (2, .inl w)] [.inr (.inr 6)] σ rfl ?_
        refine sw_callV k_X7_write rfl cV_X5_size ml_X7_213 ⟨by decide, by decide⟩ 6 rfl rfl [] [] rfl rfl (Nat.le_of_ble_eq_true rfl) 49 rfl (sp_size σ  (hσ 6 _)) (fun r10 σ11 hq12 => ?_)
        obtain ⟨rfl, rfl⟩ := hq12
        refine sw_blk k_X7_write 2 53 [(3, .inr (.inr 21)), (0, .inr (.inr 0)), (1, .inl 3), (2, .inl w)] [.inl (σ 21 3), .inl (min (σ 6 1) 40)] σ rfl ?_
        refine sw_callS k_X7_write rfl cS_J9_min_7cf53 ml_X7_265 ⟨by decide, by decide⟩ [.inl (min (σ 6 1) 40), .inl (σ 21 3)] [] rfl rfl (Nat.le_of_ble_eq_true rfl) 56 rfl (sp_min σ (min (σ 6 1) 40) (σ 21 3) (by omega) (by omega)) (fun r13 σ14 hq15 => ?_)
        obtain ⟨rfl, rfl⟩ := hq15
        refine sw_blk k_X7_write 3 61 [(5, .inl 0), (4, .inl (min (min (σ 6 1) 40) (σ 21 3))), (3, .inr (.inr 21)), (0, .inr (.inr 0)), (1, .inl 3), (2, .inl w)] [] σ rfl ?_
        have h := lp_write3 σ hσ hs0 hs1 hfm h61 (min (min (σ 6 1) 40) (σ 21 3)) w (by omega) (by omega) (by omega) (fun r σ' => (¬ (0 ≤ w ∧ w ≤ 2) ∧ r = some (.inl (-2)) ∧ σ = σ') ∨ (((0 ≤ w ∧ w ≤ 2) ∧ ¬ σ 21 1 = 0) ∧ r = some (.inl (-10 - 1)) ∧ sw_u σ 0 9 1 = σ') ∨ (((0 ≤ w ∧ w ≤ 2) ∧ σ 21 1 = 0) ∧ r = some (.inl (min (min (σ 6 1) 40) (σ 21 3))) ∧ sw_pf σ 22 (fun j : Nat => sw_cv (σ 21 2) (σ 7 ((σ 6 1 - 1 - ((min (min (σ 6 1) 40) (σ 21 3)) - 1 - (j : Int))) % 40 * 3 + w).toNat)) (min (min (σ 6 1) 40) (σ 21 3)).toNat = σ')) (Or.inr (Or.inr ⟨by omega, rfl, rfl⟩)) 62 0 (by omega) (by omega)
        rw [sw_pf_0] at h
        exact h
      · refine sw_blk k_X7_write 2 35 [(3, .inr (.inr 21)), (0, .inr (.inr 0)), (1, .inl 3), (2, .inl w)] [.inl 1, .inr (.inr 0)] σ rfl ?_
        refine sw_callV k_X7_write rfl cV_X7_finding ml_X7_225 ⟨by decide, by decide⟩ 0 rfl rfl [.inl 1] [] rfl rfl (Nat.le_of_ble_eq_true rfl) 38 rfl (sp_finding σ 1) (fun r16 σ17 hq18 => ?_)
        obtain ⟨rfl, rfl⟩ := hq18
        refine sw_blk k_X7_write 0 38 [(3, .inr (.inr 21)), (0, .inr (.inr 0)), (1, .inl 3), (2, .inl w)] [.inl (-10 - 1)] (sw_u σ 0 9 1) rfl ?_
        refine sw_ireturn k_X7_write rfl rfl ?_
        exact Or.inr (Or.inl ⟨by omega, rfl, rfl⟩)
    · refine sw_blk k_X7_write 0 13 [(0, .inr (.inr 0)), (1, .inl 3), (2, .inl w)] [.inl 0] σ rfl ?_
      refine sw_if_ne k_X7_write rfl (by decide) 19 16 (by decide) rfl (fun c => absurd (by decide) c) (fun _ => ?_)
      refine sw_blk k_X7_write 1 18 [(0, .inr (.inr 0)), (1, .inl 3), (2, .inl w)] [.inl (-2)] σ rfl ?_
      refine sw_ireturn k_X7_write rfl rfl ?_
      exact Or.inl ⟨by omega, rfl, rfl⟩
  · exact absurd (by decide) p1
theorem lp_plan3 (σ : sw_S) (hσ : sw_gs σ) (hs0 : 0 ≤ σ 21 3) (hs1 : σ 21 3 ≤ 60) (hfm : 0 ≤ σ 21 2 ∧ σ 21 2 ≤ 2) (K q : Int) (hK : 0 ≤ K ∧ K ≤ 60) (Q : Option sw_Vl → sw_S → Prop) (hQ : Q (some (.inl K)) (sw_pf σ 22 (fun j : Nat => sw_cv (σ 21 2) (σ 25 j)) K.toNat)) : ∀ (n : Nat) (i : Nat), (i : Int) ≤ K → 61 - i < n → sw_E sw_ly sw_rho M_X7_plan 85 [(5, .inl (i : Int)), (4, .inl K), (3, .inr (.inr 21)), (0, .inr (.inr 0)), (1, .inl 3), (2, .inl q)] [] (sw_pf σ 22 (fun j : Nat => sw_cv (σ 21 2) (σ 25 j)) i) Q := by
  intro n
  induction n with
  | zero =>
    intro i hi hn
    omega
  | succ n ih =>
    intro i hi hn
    refine sw_blk k_X7_plan 2 89 [(5, .inl (i : Int)), (4, .inl K), (3, .inr (.inr 21)), (0, .inr (.inr 0)), (1, .inl 3), (2, .inl q)] [.inl K, .inl (i : Int)] (sw_pf σ 22 (fun j : Nat => sw_cv (σ 21 2) (σ 25 j)) i) rfl ?_
    refine sw_icmp_ge k_X7_plan rfl (by omega) (by omega) 111 92 (by decide) rfl (fun c1 => ?_) (fun c1 => ?_)
    · refine sw_blk k_X7_plan 1 113 [(5, .inl (i : Int)), (4, .inl K), (3, .inr (.inr 21)), (0, .inr (.inr 0)), (1, .inl 3), (2, .inl q)] [.inl K] (sw_pf σ 22 (fun j : Nat => sw_cv (σ 21 2) (σ 25 j)) i) rfl ?_
      refine sw_ireturn k_X7_plan rfl rfl ?_
      have e : K.toNat = i := by omega
      rw [e] at hQ
      exact hQ
    · refine sw_blk k_X7_plan 5 101 [(5, .inl (i : Int)), (4, .inl K), (3, .inr (.inr 21)), (0, .inr (.inr 0)), (1, .inl 3), (2, .inl q)] [.inl (i : Int), .inr (.inr 25), .inl (i : Int), .inr (.inr 21)] (sw_pf σ 22 (fun j : Nat => sw_cv (σ 21 2) (σ 25 j)) i) rfl ?_
      refine sw_iald k_X7_plan rfl (i := 25) (n := 400) rfl (by decide) (by omega) (by omega) 102 rfl ?_
      refine sw_blk k_X7_plan 0 102 [(5, .inl (i : Int)), (4, .inl K), (3, .inr (.inr 21)), (0, .inr (.inr 0)), (1, .inl 3), (2, .inl q)] [.inl ((sw_pf σ 22 (fun j : Nat => sw_cv (σ 21 2) (σ 25 j)) i) 25 i), .inl (i : Int), .inr (.inr 21)] (sw_pf σ 22 (fun j : Nat => sw_cv (σ 21 2) (σ 25 j)) i) rfl ?_
      refine sw_callV k_X7_plan rfl cV_X4_store ml_X7_241 ⟨by decide, by decide⟩ 21 rfl rfl [.inl (i : Int), .inl ((sw_pf σ 22 (fun j : Nat => sw_cv (σ 21 2) (σ 25 j)) i) 25 i)] [] rfl rfl (Nat.le_of_ble_eq_true rfl) 105 rfl (sp_store3 (sw_pf σ 22 (fun j : Nat => sw_cv (σ 21 2) (σ 25 j)) i) (sw_pf_gs hσ 22 i (fun j _ => sw_cv_g (hσ 25 _))) (i : Int) ((sw_pf σ 22 (fun j : Nat => sw_cv (σ 21 2) (σ 25 j)) i) 25 i) (by omega) hfm) (fun r2 σ3 hq4 => ?_)
      obtain ⟨rfl, rfl⟩ := hq4
      refine sw_blk k_X7_plan 2 85 [(5, .inl ((i : Int) + 1)), (4, .inl K), (3, .inr (.inr 21)), (0, .inr (.inr 0)), (1, .inl 3), (2, .inl q)] [] (sw_u (sw_pf σ 22 (fun j : Nat => sw_cv (σ 21 2) (σ 25 j)) i) 22 i (sw_cv (σ 21 2) ((sw_pf σ 22 (fun j : Nat => sw_cv (σ 21 2) (σ 25 j)) i) 25 i))) rfl ?_
      rw [sw_pf_s σ 22 (fun j : Nat => sw_cv (σ 21 2) (σ 25 j)) i (by rw [sw_pf_row σ _ _ (by decide)])]
      exact ih (i + 1) (by omega) (by omega)
theorem cc_plan3 (σ : sw_S) (hσ : sw_gs σ) (hD : 10 ≤ σ 1 0 ∧ σ 1 0 ≤ 400) (hV : 1 ≤ σ 1 1 ∧ σ 1 1 ≤ 20) (hA : 1 ≤ σ 1 2 ∧ σ 1 2 ≤ 5) (hL : ∀ x : Int, 0 ≤ x → x ≤ σ 1 0 → 1 ≤ σ 2 x.toNat ∧ σ 2 x.toNat ≤ σ 1 1) (hf : sw_fn σ) (hpl : 0 ≤ σ 5 7 ∧ σ 5 7 ≤ σ 1 0) (hs0 : 0 ≤ σ 21 3) (hs1 : σ 21 3 ≤ 60) (hfm : 0 ≤ σ 21 2 ∧ σ 21 2 ≤ 2) (q : Int) (gq : sw_g q) : sw_Con sw_ly sw_rho M_X7_plan [.inr (.inr 0), .inl 3, .inl q] σ (fun r σ' => (¬ (0 ≤ q ∧ q ≤ σ 1 0) ∧ r = some (.inl (-2)) ∧ σ = σ') ∨ (((0 ≤ q ∧ q ≤ σ 1 0) ∧ ¬ σ 5 9 = 0) ∧ r = some (.inl (-4)) ∧ σ = σ') ∨ (((0 ≤ q ∧ q ≤ σ 1 0) ∧ σ 5 9 = 0 ∧ ¬ σ 21 1 = 0) ∧ r = some (.inl (-10 - 1)) ∧ sw_u σ 0 9 1 = σ') ∨ (((0 ≤ q ∧ q ≤ σ 1 0) ∧ σ 5 9 = 0 ∧ σ 21 1 = 0) ∧ ∃ (n : Nat) (τ : sw_S), sw_fkc 25 σ τ ∧ sw_gs τ ∧ sw_fn τ ∧ sw_isr (σ 2) (σ 1 0) (σ 1 1) (σ 1 2) (σ 5 7) q n (τ 25) ∧ r = some (.inl (min (n : Int) (σ 21 3))) ∧ sw_pf τ 22 (fun j : Nat => sw_cv (σ 21 2) (τ 25 j)) (min (n : Int) (σ 21 3)).toNat = σ')) := by
  refine sw_con (by decide) (Nat.le_of_ble_eq_true rfl) ?_
  refine sw_blk k_X7_plan 1 1 [(0, .inr (.inr 0)), (1, .inl 3), (2, .inl q)] [.inl 3] σ rfl ?_
  refine sw_callS k_X7_plan rfl cS_X7_isSheet ml_X7_219 ⟨by decide, by decide⟩ [.inl 3] [] rfl rfl (Nat.le_of_ble_eq_true rfl) 4 rfl (sp_isSheet σ 3 (by decide)) (fun r2 σ3 hq4 => ?_)
  obtain ⟨rfl, ⟨p1, rfl⟩ | ⟨p1, rfl⟩⟩ := hq4
  · refine sw_blk k_X7_plan 0 4 [(0, .inr (.inr 0)), (1, .inl 3), (2, .inl q)] [.inl 1] σ rfl ?_
    refine sw_if_eq k_X7_plan rfl (by decide) 18 7 (by decide) rfl (fun c => absurd c (by decide)) (fun _ => ?_)
    refine sw_blk k_X7_plan 3 12 [(0, .inr (.inr 0)), (1, .inl 3), (2, .inl q)] [.inl q, .inr (.inr 1)] σ rfl ?_
    refine sw_callV k_X7_plan rfl cV_X3_has ml_X7_85 ⟨by decide, by decide⟩ 1 rfl rfl [.inl q] [] rfl rfl (Nat.le_of_ble_eq_true rfl) 15 rfl (sp_has σ q (by omega) (hσ 1 0)) (fun r6 σ7 hq8 => ?_)
    obtain ⟨rfl, ⟨p5, rfl⟩ | ⟨p5, rfl⟩⟩ := hq8
    · have p5 : 0 ≤ q ∧ q ≤ (σ 1 0) := p5
      refine sw_blk k_X7_plan 0 15 [(0, .inr (.inr 0)), (1, .inl 3), (2, .inl q)] [.inl 1] σ rfl ?_
      refine sw_if_ne k_X7_plan rfl (by decide) 21 18 (by decide) rfl (fun _ => ?_) (fun c => absurd c (by decide))
      refine sw_blk k_X7_plan 2 25 [(0, .inr (.inr 0)), (1, .inl 3), (2, .inl q)] [.inr (.inr 5)] σ rfl ?_
      refine sw_callV k_X7_plan rfl cV_X6_rests ml_X7_67 ⟨by decide, by decide⟩ 5 rfl rfl [] [] rfl rfl (Nat.le_of_ble_eq_true rfl) 28 rfl (sp_rests σ  (hσ 5 _)) (fun r10 σ11 hq12 => ?_)
      obtain ⟨rfl, ⟨p9, rfl⟩ | ⟨p9, rfl⟩⟩ := hq12
      · refine sw_blk k_X7_plan 0 28 [(0, .inr (.inr 0)), (1, .inl 3), (2, .inl q)] [.inl 1] σ rfl ?_
        refine sw_if_ne k_X7_plan rfl (by decide) 34 31 (by decide) rfl (fun _ => ?_) (fun c => absurd c (by decide))
        refine sw_blk k_X7_plan 3 39 [(0, .inr (.inr 0)), (1, .inl 3), (2, .inl q)] [.inl 3, .inr (.inr 14)] σ rfl ?_
        refine sw_aald k_X7_plan rfl (i := 14) (n := 4) (r := 21) rfl (by decide) (by decide) (by decide) rfl 40 rfl ?_
        refine sw_blk k_X7_plan 3 45 [(3, .inr (.inr 21)), (0, .inr (.inr 0)), (1, .inl 3), (2, .inl q)] [.inl (σ 21 1)] σ rfl ?_
        refine sw_if_eq k_X7_plan rfl (hσ 21 _) 54 48 (by decide) rfl (fun c13 => ?_) (fun c13 => ?_)
        · refine sw_blk k_X7_plan 8 70 [(3, .inr (.inr 21)), (0, .inr (.inr 0)), (1, .inl 3), (2, .inl q)] [.inr (.inr 25), .inl q, .inl (σ 5 7), .inr (.inr 3)] σ rfl ?_
          refine sw_callV k_X7_plan rfl cV_X1_trace ml_X7_102 ⟨by decide, by decide⟩ 3 rfl rfl [.inl (σ 5 7), .inl q, .inr (.inr 25)] [] rfl rfl (Nat.le_of_ble_eq_true rfl) 73 rfl (sp_tracea σ hσ hD hV hA hL (σ 5 7) q (by omega) (by omega) hf) (fun r14 σ15 hq16 => ?_)
          obtain ⟨fk1, fk2, fk3, nn, rfl, nn1, nn2, nn3, nn4⟩ := hq16
          have hisr : sw_isr (σ 2) (σ 1 0) (σ 1 1) (σ 1 2) (σ 5 7) q nn _ := ⟨⟨nn1, nn2, nn3⟩, nn4⟩
          refine sw_blk k_X7_plan 2 77 [(3, .inr (.inr 21)), (0, .inr (.inr 0)), (1, .inl 3), (2, .inl q)] [.inl (σ15 21 3), .inl (nn : Int)] σ15 rfl ?_
          have eo : σ15 21 = σ 21 := funext fun j => fk1 21 j (by decide) (by decide) (fun z => absurd z (by decide))
          refine sw_callS k_X7_plan rfl cS_J9_min_7cf53 ml_X7_265 ⟨by decide, by decide⟩ [.inl (nn : Int), .inl (σ15 21 3)] [] rfl rfl (Nat.le_of_ble_eq_true rfl) 80 rfl (sp_min σ15 (nn : Int) (σ15 21 3) (by omega) (fk2 21 3)) (fun r17 σ18 hq19 => ?_)
          obtain ⟨rfl, rfl⟩ := hq19
          refine sw_blk k_X7_plan 3 85 [(5, .inl 0), (4, .inl (min (nn : Int) (σ15 21 3))), (3, .inr (.inr 21)), (0, .inr (.inr 0)), (1, .inl 3), (2, .inl q)] [] σ15 rfl ?_
          have h := lp_plan3 σ15 fk2 (by rw [eo]; exact hs0) (by rw [eo]; exact hs1) (by rw [eo]; exact hfm) (min (nn : Int) (σ15 21 3)) q (by rw [eo]; omega) (fun r σ' => (¬ (0 ≤ q ∧ q ≤ σ 1 0) ∧ r = some (.inl (-2)) ∧ σ = σ') ∨ (((0 ≤ q ∧ q ≤ σ 1 0) ∧ ¬ σ 5 9 = 0) ∧ r = some (.inl (-4)) ∧ σ = σ') ∨ (((0 ≤ q ∧ q ≤ σ 1 0) ∧ σ 5 9 = 0 ∧ ¬ σ 21 1 = 0) ∧ r = some (.inl (-10 - 1)) ∧ sw_u σ 0 9 1 = σ') ∨ (((0 ≤ q ∧ q ≤ σ 1 0) ∧ σ 5 9 = 0 ∧ σ 21 1 = 0) ∧ ∃ (n : Nat) (τ : sw_S), sw_fkc 25 σ τ ∧ sw_gs τ ∧ sw_fn τ ∧ sw_isr (σ 2) (σ 1 0) (σ 1 1) (σ 1 2) (σ 5 7) q n (τ 25) ∧ r = some (.inl (min (n : Int) (σ 21 3))) ∧ sw_pf τ 22 (fun j : Nat => sw_cv (σ 21 2) (τ 25 j)) (min (n : Int) (σ 21 3)).toNat = σ')) (Or.inr (Or.inr (Or.inr ⟨by omega, nn, σ15, fk1, fk2, fk3, hisr, by rw [eo], by rw [eo]⟩))) 62 0 (by rw [eo]; omega) (by omega)
          rw [sw_pf_0] at h
          exact h
        · refine sw_blk k_X7_plan 2 50 [(3, .inr (.inr 21)), (0, .inr (.inr 0)), (1, .inl 3), (2, .inl q)] [.inl 1, .inr (.inr 0)] σ rfl ?_
          refine sw_callV k_X7_plan rfl cV_X7_finding ml_X7_225 ⟨by decide, by decide⟩ 0 rfl rfl [.inl 1] [] rfl rfl (Nat.le_of_ble_eq_true rfl) 53 rfl (sp_finding σ 1) (fun r20 σ21 hq22 => ?_)
          obtain ⟨rfl, rfl⟩ := hq22
          refine sw_blk k_X7_plan 0 53 [(3, .inr (.inr 21)), (0, .inr (.inr 0)), (1, .inl 3), (2, .inl q)] [.inl (-10 - 1)] (sw_u σ 0 9 1) rfl ?_
          refine sw_ireturn k_X7_plan rfl rfl ?_
          exact Or.inr (Or.inr (Or.inl ⟨by omega, rfl, rfl⟩))
      · refine sw_blk k_X7_plan 0 28 [(0, .inr (.inr 0)), (1, .inl 3), (2, .inl q)] [.inl 0] σ rfl ?_
        refine sw_if_ne k_X7_plan rfl (by decide) 34 31 (by decide) rfl (fun c => absurd (by decide) c) (fun _ => ?_)
        refine sw_blk k_X7_plan 1 33 [(0, .inr (.inr 0)), (1, .inl 3), (2, .inl q)] [.inl (-4)] σ rfl ?_
        refine sw_ireturn k_X7_plan rfl rfl ?_
        exact Or.inr (Or.inl ⟨by omega, rfl, rfl⟩)
    · have p5 : ¬ (0 ≤ q ∧ q ≤ (σ 1 0)) := p5
      refine sw_blk k_X7_plan 0 15 [(0, .inr (.inr 0)), (1, .inl 3), (2, .inl q)] [.inl 0] σ rfl ?_
      refine sw_if_ne k_X7_plan rfl (by decide) 21 18 (by decide) rfl (fun c => absurd (by decide) c) (fun _ => ?_)
      refine sw_blk k_X7_plan 1 20 [(0, .inr (.inr 0)), (1, .inl 3), (2, .inl q)] [.inl (-2)] σ rfl ?_
      refine sw_ireturn k_X7_plan rfl rfl ?_
      exact Or.inl ⟨by omega, rfl, rfl⟩
  · exact absurd (by decide) p1
