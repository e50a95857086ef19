theorem sw_conF {ly : sw_Ly} {ρ : sw_Rf} {M : sw_M} {args : List sw_Vl} {σ : sw_S} {Q : Option sw_Vl → sw_S → Prop} (hy : plainFor M.1 = true) (hw : sw_wd args ≤ M.2.2.1) (hE : sw_E ly ρ M 0 (sw_L0 0 args) [] σ Q) : sw_Con ly ρ M args σ Q := by
  intro l D c3 ad sz hj
  refine MetFree.of_bodySF (code := M.2.1) (maxLocals := M.2.2.1) (ret := M.2.2.2.1) hy ?_ ?_
  · intro args s m h hn
    obtain ⟨meth, c, h1, h2, h3, h4, h5, h6, -, -⟩ := Cond.code_spec hn (atoms_spec (ws := sw_ws M) h _ List.mem_cons_self)
    exact ⟨meth, c, h1, h2, h3, h4, h5, h6⟩
  · intro p e s m args' below meth c s₁ B hml hv _
    have hh0 : s₁.heap = s.heap := by rw [B.state]; rfl
    obtain ⟨rfl, hsz, hP, hK⟩ := hv
    subst hsz
    have hts := atoms_spec (ws := sw_ws M) B.pre
    have hl := lv_entry (args.map (sw_tv ad)) (n := M.2.2.1) (by rw [sw_wd_sl]; exact hw)
    rw [sw_L0_tl] at hl
    have hb := hE l D c3 ad p e s m _ below meth c s.heap [] _ ⟨B.exec, B.bytes, B.returns, hml, findClass_of_methodNamed B.named, fun w hw => hts w (List.mem_cons_of_mem _ hw), B.notSynchronized, hK, hj⟩ hP va_S.rf hl
    rw [lg_entry_eq]
    obtain ⟨t, a1, o, b1, b2, b3⟩ := hb s₁ hh0 (Stand.of_body B)
    exact ⟨t, o, a1, b1, b2, ⟨b3.1, b3.2⟩⟩
def sw_ly : sw_Ly := [(7, 0), (3, 0), (100, 401), (1, 0), (100, 8421), (6, 0), (5, 0), (100, 120), (101, 8), (100, 3), (100, 400), (2, 0), (0, 0), (100, 60), (102, 4), (4, 0), (100, 60), (4, 0), (100, 60), (4, 0), (100, 60), (4, 0), (100, 60), (100, 6), (100, 6), (100, 400), (8, 0), (100, 6), (100, 6), (100, 6), (100, 6), (100, 6), (101, 8), (100, 3), (100, 600), (100, 401), (100, 16441), (100, 16441), (100, 600), (100, 120), (100, 60), (101, 4), (100, 4), (100, 4), (100, 240), (100, 60)]
def sw_rl : List (List (Option Nat)) := [[some 1, some 3, some 5, some 11, some 12, some 14, some 23, some 24, none, none, some 25], [none, none, none, none, some 2], [], [some 1, some 4], [], [some 1, some 6, some 8, some 9, some 10], [some 7], [], [], [], [], [some 1], [some 13], [], [some 15, some 17, some 19, some 21], [some 16], [], [some 18], [], [some 20], [], [some 22], [], [], [], [], [none, none, none, none, some 27, some 28, some 29, none, some 30, some 31, none, none, none, none, some 32, some 33, none, none, none, none, none, some 34, none, none, some 35, some 36, some 37, some 38, some 39, none, none, none, none, some 40, some 41, some 42, some 43, some 44, some 45], [], [], [], [], [], [], [], [], [], [], [], [], [], [], [], [], [], [], []]
def sw_rho : sw_Rf := fun i j => (sw_rl.getD i []).getD j none
theorem sp_min {ly : sw_Ly} {ρ : sw_Rf} (σ : sw_S) (x y : Int) (gx : sw_g x) (gy : sw_g y) : sw_Con ly ρ M_J9_min_7cf53 [.inl x, .inl y] σ (fun r σ' => σ = σ' ∧ r = some (.inl (min x y))) := by
  refine sw_conF (by decide +kernel) (Nat.le_of_ble_eq_true rfl) ?_
  refine sw_blk k_J9_min_7cf53 2 2 [(0, .inl x), (1, .inl y)] [.inl y, .inl x] σ rfl ?_
  refine sw_icmp_gt k_J9_min_7cf53 rfl (by omega) (by omega) 9 5 (by decide) rfl (fun c1 => ?_) (fun c1 => ?_)
  · refine sw_blk k_J9_min_7cf53 1 10 [(0, .inl x), (1, .inl y)] [.inl y] σ rfl ?_
    refine sw_ireturn k_J9_min_7cf53 rfl rfl ?_
    exact ⟨rfl, by rw [show min x y = y from by omega]⟩
  · refine sw_blk k_J9_min_7cf53 2 10 [(0, .inl x), (1, .inl y)] [.inl x] σ rfl ?_
    refine sw_ireturn k_J9_min_7cf53 rfl rfl ?_
    exact ⟨rfl, by rw [show min x y = x from by omega]⟩
theorem sp_max {ly : sw_Ly} {ρ : sw_Rf} (σ : sw_S) (x y : Int) (gx : sw_g x) (gy : sw_g y) : sw_Con ly ρ M_J9_max_7cf53 [.inl x, .inl y] σ (fun r σ' => σ = σ' ∧ r = some (.inl (max x y))) := by
  refine sw_conF (by decide +kernel) (Nat.le_of_ble_eq_true rfl) ?_
  refine sw_blk k_J9_max_7cf53 2 2 [(0, .inl x), (1, .inl y)] [.inl y, .inl x] σ rfl ?_
  refine sw_icmp_lt k_J9_max_7cf53 rfl (by omega) (by omega) 9 5 (by decide) rfl (fun c1 => ?_) (fun c1 => ?_)
  · refine sw_blk k_J9_max_7cf53 1 10 [(0, .inl x), (1, .inl y)] [.inl y] σ rfl ?_
    refine sw_ireturn k_J9_max_7cf53 rfl rfl ?_
    exact ⟨rfl, by rw [show max x y = y from by omega]⟩
  · refine sw_blk k_J9_max_7cf53 2 10 [(0, .inl x), (1, .inl y)] [.inl x] σ rfl ?_
    refine sw_ireturn k_J9_max_7cf53 rfl rfl ?_
    exact ⟨rfl, by rw [show max x y = x from by omega]⟩
def sw_abs (x : Int) : Int := if x < 0 then -x else x
theorem sp_abs {ly : sw_Ly} {ρ : sw_Rf} (σ : sw_S) (x : Int) (gx : sw_g x) : sw_Con ly ρ M_J9_abs_0f7a4 [.inl x] σ (fun r σ' => σ = σ' ∧ r = some (.inl (sw_abs x))) := by
  refine sw_conF (by decide +kernel) (Nat.le_of_ble_eq_true rfl) ?_
  refine sw_blk k_J9_abs_0f7a4 1 1 [(0, .inl x)] [.inl x] σ rfl ?_
  refine sw_if_ge k_J9_abs_0f7a4 rfl (by omega) 9 4 (by decide) rfl (fun c1 => ?_) (fun c1 => ?_)
  · refine sw_blk k_J9_abs_0f7a4 1 10 [(0, .inl x)] [.inl x] σ rfl ?_
    refine sw_ireturn k_J9_abs_0f7a4 rfl rfl ?_
    exact ⟨rfl, by rw [show sw_abs x = x from by unfold sw_abs; omega]⟩
  · refine sw_blk k_J9_abs_0f7a4 3 10 [(0, .inl x)] [.inl (-x)] σ rfl ?_
    refine sw_ireturn k_J9_abs_0f7a4 rfl rfl ?_
    exact ⟨rfl, by rw [show sw_abs x = (-x) from by unfold sw_abs; omega]⟩
theorem sp_floorMod {ly : sw_Ly} {ρ : sw_Rf} (σ : sw_S) (x y : Int) (gx : sw_g x) (gy : sw_g y) (h0 : 0 ≤ x) (hy : 0 < y) : sw_Con ly ρ M_J9_floorMod_7cf53 [.inl x, .inl y] σ (fun r σ' => σ = σ' ∧ r = some (.inl (x % y))) := by
  refine sw_conF (by decide +kernel) (Nat.le_of_ble_eq_true rfl) ?_
  refine sw_blk k_J9_floorMod_7cf53 2 2 [(0, .inl x), (1, .inl y)] [.inl y, .inl x] σ rfl ?_
  refine sw_irem k_J9_floorMod_7cf53 rfl (by omega) (by omega) (by omega) (by omega) 3 rfl ?_
  refine sw_blk k_J9_floorMod_7cf53 3 6 [(2, .inl (x % y)), (0, .inl x), (1, .inl y)] [.inl y, .inl x] σ rfl ?_
  refine sw_ixor k_J9_floorMod_7cf53 rfl (by omega) (by omega) (by omega) (by omega) 7 rfl (fun w1 h2 g3 => ?_)
  refine sw_if_ge k_J9_floorMod_7cf53 rfl (by omega) 18 10 (by decide) rfl (fun c4 => ?_) (fun c4 => ?_)
  · refine sw_blk k_J9_floorMod_7cf53 1 19 [(2, .inl (x % y)), (0, .inl x), (1, .inl y)] [.inl (x % y)] σ rfl ?_
    refine sw_ireturn k_J9_floorMod_7cf53 rfl rfl ?_
    exact ⟨rfl, rfl⟩
  · omega
theorem sp_within {ly : sw_Ly} {ρ : sw_Rf} (σ : sw_S) (n a b : Int) (gn : sw_g n) (ga : sw_g a) (gb : sw_g b) : sw_Con ly ρ M_X7_within [.inl n, .inl a, .inl b] σ (fun r σ' => σ = σ' ∧ ((a ≤ n ∧ n ≤ b) ∧ r = some (.inl 1) ∨ ¬ (a ≤ n ∧ n ≤ b) ∧ r = some (.inl 0))) := by
  refine sw_con (by decide) (Nat.le_of_ble_eq_true rfl) ?_
  refine sw_blk k_X7_within 2 2 [(0, .inl n), (1, .inl a), (2, .inl b)] [.inl a, .inl n] σ rfl ?_
  refine sw_icmp_lt k_X7_within rfl (by omega) (by omega) 14 5 (by decide) rfl (fun c1 => ?_) (fun c1 => ?_)
  · refine sw_blk k_X7_within 1 15 [(0, .inl n), (1, .inl a), (2, .inl b)] [.inl 0] σ rfl ?_
    refine sw_zreturn k_X7_within rfl rfl (by decide) ?_
    exact ⟨rfl, Or.inr ⟨by omega, rfl⟩⟩
  · refine sw_blk k_X7_within 2 7 [(0, .inl n), (1, .inl a), (2, .inl b)] [.inl b, .inl n] σ rfl ?_
    refine sw_icmp_gt k_X7_within rfl (by omega) (by omega) 14 10 (by decide) rfl (fun c2 => ?_) (fun c2 => ?_)
    · refine sw_blk k_X7_within 1 15 [(0, .inl n), (1, .inl a), (2, .inl b)] [.inl 0] σ rfl ?_
      refine sw_zreturn k_X7_within rfl rfl (by decide) ?_
      exact ⟨rfl, Or.inr ⟨by omega, rfl⟩⟩
    · refine sw_blk k_X7_within 2 15 [(0, .inl n), (1, .inl a), (2, .inl b)] [.inl 1] σ rfl ?_
      refine sw_zreturn k_X7_within rfl rfl (by decide) ?_
      exact ⟨rfl, Or.inl ⟨by omega, rfl⟩⟩
theorem sp_in {ly : sw_Ly} {ρ : sw_Rf} (σ : sw_S) (n a b : Int) (gn : sw_g n) (ga : sw_g a) (gb : sw_g b) : sw_Con ly ρ M_X8_in [.inl n, .inl a, .inl b] σ (fun r σ' => σ = σ' ∧ ((a ≤ n ∧ n ≤ b) ∧ r = some (.inl 1) ∨ ¬ (a ≤ n ∧ n ≤ b) ∧ r = some (.inl 0))) := by
  refine sw_con (by decide) (Nat.le_of_ble_eq_true rfl) ?_
  refine sw_blk k_X8_in 2 2 [(0, .inl n), (1, .inl a), (2, .inl b)] [.inl a, .inl n] σ rfl ?_
  refine sw_icmp_lt k_X8_in rfl (by omega) (by omega) 14 5 (by decide) rfl (fun c1 => ?_) (fun c1 => ?_)
  · refine sw_blk k_X8_in 1 15 [(0, .inl n), (1, .inl a), (2, .inl b)] [.inl 0] σ rfl ?_
    refine sw_zreturn k_X8_in rfl rfl (by decide) ?_
    exact ⟨rfl, Or.inr ⟨by omega, rfl⟩⟩
  · refine sw_blk k_X8_in 2 7 [(0, .inl n), (1, .inl a), (2, .inl b)] [.inl b, .inl n] σ rfl ?_
    refine sw_icmp_gt k_X8_in rfl (by omega) (by omega) 14 10 (by decide) rfl (fun c2 => ?_) (fun c2 => ?_)
    · refine sw_blk k_X8_in 1 15 [(0, .inl n), (1, .inl a), (2, .inl b)] [.inl 0] σ rfl ?_
      refine sw_zreturn k_X8_in rfl rfl (by decide) ?_
      exact ⟨rfl, Or.inr ⟨by omega, rfl⟩⟩
    · refine sw_blk k_X8_in 2 15 [(0, .inl n), (1, .inl a), (2, .inl b)] [.inl 1] σ rfl ?_
      refine sw_zreturn k_X8_in rfl rfl (by decide) ?_
      exact ⟨rfl, Or.inl ⟨by omega, rfl⟩⟩
theorem sp_isSheet {ly : sw_Ly} {ρ : sw_Rf} (σ : sw_S) (n : Int) (gn : sw_g n) : sw_Con ly ρ M_X7_isSheet [.inl n] σ (fun r σ' => σ = σ' ∧ ((0 ≤ n ∧ n ≤ 3) ∧ r = some (.inl 1) ∨ ¬ (0 ≤ n ∧ n ≤ 3) ∧ r = some (.inl 0))) := by
  refine sw_con (by decide) (Nat.le_of_ble_eq_true rfl) ?_
  refine sw_blk k_X7_isSheet 3 3 [(0, .inl n)] [.inl 3, .inl 0, .inl n] σ rfl ?_
  refine sw_callS k_X7_isSheet rfl cS_X7_within ml_X7_63 ⟨by decide, by decide⟩ [.inl n, .inl 0, .inl 3] [] rfl rfl (by decide) 6 rfl (sp_within σ n 0 3 (by omega) (by decide) (by decide)) (fun r2 σ3 hq4 => ?_)
  obtain ⟨rfl, ⟨p1, rfl⟩ | ⟨p1, rfl⟩⟩ := hq4
  · refine sw_blk k_X7_isSheet 0 6 [(0, .inl n)] [.inl 1] σ rfl ?_
    refine sw_zreturn k_X7_isSheet rfl rfl (by decide) ?_
    exact ⟨rfl, Or.inl ⟨by omega, rfl⟩⟩
  · refine sw_blk k_X7_isSheet 0 6 [(0, .inl n)] [.inl 0] σ rfl ?_
    refine sw_zreturn k_X7_isSheet rfl rfl (by decide) ?_
    exact ⟨rfl, Or.inr ⟨by omega, rfl⟩⟩
theorem sp_isForm {ly : sw_Ly} {ρ : sw_Rf} (σ : sw_S) (n : Int) (gn : sw_g n) : sw_Con ly ρ M_X7_isForm [.inl n] σ (fun r σ' => σ = σ' ∧ ((0 ≤ n ∧ n ≤ 2) ∧ r = some (.inl 1) ∨ ¬ (0 ≤ n ∧ n ≤ 2) ∧ r = some (.inl 0))) := by
  refine sw_con (by decide) (Nat.le_of_ble_eq_true rfl) ?_
  refine sw_blk k_X7_isForm 3 3 [(0, .inl n)] [.inl 2, .inl 0, .inl n] σ rfl ?_
  refine sw_callS k_X7_isForm rfl cS_X7_within ml_X7_63 ⟨by decide, by decide⟩ [.inl n, .inl 0, .inl 2] [] rfl rfl (by decide) 6 rfl (sp_within σ n 0 2 (by omega) (by decide) (by decide)) (fun r2 σ3 hq4 => ?_)
  obtain ⟨rfl, ⟨p1, rfl⟩ | ⟨p1, rfl⟩⟩ := hq4
  · refine sw_blk k_X7_isForm 0 6 [(0, .inl n)] [.inl 1] σ rfl ?_
    refine sw_zreturn k_X7_isForm rfl rfl (by decide) ?_
    exact ⟨rfl, Or.inl ⟨by omega, rfl⟩⟩
  · refine sw_blk k_X7_isForm 0 6 [(0, .inl n)] [.inl 0] σ rfl ?_
    refine sw_zreturn k_X7_isForm rfl rfl (by decide) ?_
    exact ⟨rfl, Or.inr ⟨by omega, rfl⟩⟩
theorem sp_mSheet {ly : sw_Ly} {ρ : sw_Rf} (σ : sw_S) (n : Int) (gn : sw_g n) : sw_Con ly ρ M_X8_isSheet [.inl n] σ (fun r σ' => σ = σ' ∧ ((0 ≤ n ∧ n ≤ 3) ∧ r = some (.inl 1) ∨ ¬ (0 ≤ n ∧ n ≤ 3) ∧ r = some (.inl 0))) := by
  refine sw_con (by decide) (Nat.le_of_ble_eq_true rfl) ?_
  refine sw_blk k_X8_isSheet 3 3 [(0, .inl n)] [.inl 3, .inl 0, .inl n] σ rfl ?_
  refine sw_callS k_X8_isSheet rfl cS_X8_in ml_X8_87 ⟨by decide, by decide⟩ [.inl n, .inl 0, .inl 3] [] rfl rfl (by decide) 6 rfl (sp_in σ n 0 3 (by omega) (by decide) (by decide)) (fun r2 σ3 hq4 => ?_)
  obtain ⟨rfl, ⟨p1, rfl⟩ | ⟨p1, rfl⟩⟩ := hq4
  · refine sw_blk k_X8_isSheet 0 6 [(0, .inl n)] [.inl 1] σ rfl ?_
    refine sw_zreturn k_X8_isSheet rfl rfl (by decide) ?_
    exact ⟨rfl, Or.inl ⟨by omega, rfl⟩⟩
  · refine sw_blk k_X8_isSheet 0 6 [(0, .inl n)] [.inl 0] σ rfl ?_
    refine sw_zreturn k_X8_isSheet rfl rfl (by decide) ?_
    exact ⟨rfl, Or.inr ⟨by omega, rfl⟩⟩
theorem sp_areMen {ly : sw_Ly} {ρ : sw_Rf} (σ : sw_S) (n c b : Int) (gn : sw_g n) (gc : sw_g c) (gb : sw_g b) : sw_Con ly ρ M_X7_areMen [.inl n, .inl c, .inl b] σ (fun r σ' => σ = σ' ∧ (((1 ≤ n ∧ n ≤ 500) ∧ (1 ≤ c ∧ c ≤ 50) ∧ (0 ≤ b ∧ b ≤ 100)) ∧ r = some (.inl 1) ∨ ¬ ((1 ≤ n ∧ n ≤ 500) ∧ (1 ≤ c ∧ c ≤ 50) ∧ (0 ≤ b ∧ b ≤ 100)) ∧ r = some (.inl 0))) := by
  refine sw_con (by decide) (Nat.le_of_ble_eq_true rfl) ?_
  refine sw_blk k_X7_areMen 3 5 [(0, .inl n), (1, .inl c), (2, .inl b)] [.inl 500, .inl 1, .inl n] σ rfl ?_
  refine sw_callS k_X7_areMen rfl cS_X7_within ml_X7_63 ⟨by decide, by decide⟩ [.inl n, .inl 1, .inl 500] [] rfl rfl (by decide) 8 rfl (sp_within σ n 1 500 (by omega) (by decide) (by decide)) (fun r2 σ3 hq4 => ?_)
  obtain ⟨rfl, ⟨p1, rfl⟩ | ⟨p1, rfl⟩⟩ := hq4
  · refine sw_blk k_X7_areMen 0 8 [(0, .inl n), (1, .inl c), (2, .inl b)] [.inl 1] σ rfl ?_
    refine sw_if_eq k_X7_areMen rfl (by decide) 35 11 (by decide) rfl (fun c => absurd c (by decide)) (fun _ => ?_)
    refine sw_blk k_X7_areMen 3 15 [(0, .inl n), (1, .inl c), (2, .inl b)] [.inl 50, .inl 1, .inl c] σ rfl ?_
    refine sw_callS k_X7_areMen rfl cS_X7_within ml_X7_63 ⟨by decide, by decide⟩ [.inl c, .inl 1, .inl 50] [] rfl rfl (by decide) 18 rfl (sp_within σ c 1 50 (by omega) (by decide) (by decide)) (fun r6 σ7 hq8 => ?_)
    obtain ⟨rfl, ⟨p5, rfl⟩ | ⟨p5, rfl⟩⟩ := hq8
    · refine sw_blk k_X7_areMen 0 18 [(0, .inl n), (1, .inl c), (2, .inl b)] [.inl 1] σ rfl ?_
      refine sw_if_eq k_X7_areMen rfl (by decide) 35 21 (by decide) rfl (fun c => absurd c (by decide)) (fun _ => ?_)
      refine sw_blk k_X7_areMen 3 25 [(0, .inl n), (1, .inl c), (2, .inl b)] [.inl 100, .inl 0, .inl b] σ rfl ?_
      refine sw_callS k_X7_areMen rfl cS_X7_within ml_X7_63 ⟨by decide, by decide⟩ [.inl b, .inl 0, .inl 100] [] rfl rfl (by decide) 28 rfl (sp_within σ b 0 100 (by omega) (by decide) (by decide)) (fun r10 σ11 hq12 => ?_)
      obtain ⟨rfl, ⟨p9, rfl⟩ | ⟨p9, rfl⟩⟩ := hq12
      · refine sw_blk k_X7_areMen 0 28 [(0, .inl n), (1, .inl c), (2, .inl b)] [.inl 1] σ rfl ?_
        refine sw_if_eq k_X7_areMen rfl (by decide) 35 31 (by decide) rfl (fun c => absurd c (by decide)) (fun _ => ?_)
        refine sw_blk k_X7_areMen 2 36 [(0, .inl n), (1, .inl c), (2, .inl b)] [.inl 1] σ rfl ?_
        refine sw_zreturn k_X7_areMen rfl rfl (by decide) ?_
        exact ⟨rfl, Or.inl ⟨by omega, rfl⟩⟩
      · refine sw_blk k_X7_areMen 0 28 [(0, .inl n), (1, .inl c), (2, .inl b)] [.inl 0] σ rfl ?_
        refine sw_if_eq k_X7_areMen rfl (by decide) 35 31 (by decide) rfl (fun _ => ?_) (fun c => absurd (by decide) c)
        refine sw_blk k_X7_areMen 1 36 [(0, .inl n), (1, .inl c), (2, .inl b)] [.inl 0] σ rfl ?_
        refine sw_zreturn k_X7_areMen rfl rfl (by decide) ?_
        exact ⟨rfl, Or.inr ⟨by omega, rfl⟩⟩
    · refine sw_blk k_X7_areMen 0 18 [(0, .inl n), (1, .inl c), (2, .inl b)] [.inl 0] σ rfl ?_
      refine sw_if_eq k_X7_areMen rfl (by decide) 35 21 (by decide) rfl (fun _ => ?_) (fun c => absurd (by decide) c)
      refine sw_blk k_X7_areMen 1 36 [(0, .inl n), (1, .inl c), (2, .inl b)] [.inl 0] σ rfl ?_
      refine sw_zreturn k_X7_areMen rfl rfl (by decide) ?_
      exact ⟨rfl, Or.inr ⟨by omega, rfl⟩⟩
  · refine sw_blk k_X7_areMen 0 8 [(0, .inl n), (1, .inl c), (2, .inl b)] [.inl 0] σ rfl ?_
    refine sw_if_eq k_X7_areMen rfl (by decide) 35 11 (by decide) rfl (fun _ => ?_) (fun c => absurd (by decide) c)
    refine sw_blk k_X7_areMen 1 36 [(0, .inl n), (1, .inl c), (2, .inl b)] [.inl 0] σ rfl ?_
    refine sw_zreturn k_X7_areMen rfl rfl (by decide) ?_
    exact ⟨rfl, Or.inr ⟨by omega, rfl⟩⟩
theorem sp_mMen {ly : sw_Ly} {ρ : sw_Rf} (σ : sw_S) (n c b : Int) (gn : sw_g n) (gc : sw_g c) (gb : sw_g b) : sw_Con ly ρ M_X8_areMen [.inl n, .inl c, .inl b] σ (fun r σ' => σ = σ' ∧ (((1 ≤ n ∧ n ≤ 500) ∧ (1 ≤ c ∧ c ≤ 50) ∧ (0 ≤ b ∧ b ≤ 100)) ∧ r = some (.inl 1) ∨ ¬ ((1 ≤ n ∧ n ≤ 500) ∧ (1 ≤ c ∧ c ≤ 50) ∧ (0 ≤ b ∧ b ≤ 100)) ∧ r = some (.inl 0))) := by
  refine sw_con (by decide) (Nat.le_of_ble_eq_true rfl) ?_
  refine sw_blk k_X8_areMen 3 5 [(0, .inl n), (1, .inl c), (2, .inl b)] [.inl 500, .inl 1, .inl n] σ rfl ?_
  refine sw_callS k_X8_areMen rfl cS_X8_in ml_X8_87 ⟨by decide, by decide⟩ [.inl n, .inl 1, .inl 500] [] rfl rfl (by decide) 8 rfl (sp_in σ n 1 500 (by omega) (by decide) (by decide)) (fun r2 σ3 hq4 => ?_)
  obtain ⟨rfl, ⟨p1, rfl⟩ | ⟨p1, rfl⟩⟩ := hq4
  · refine sw_blk k_X8_areMen 0 8 [(0, .inl n), (1, .inl c), (2, .inl b)] [.inl 1] σ rfl ?_
    refine sw_if_eq k_X8_areMen rfl (by decide) 35 11 (by decide) rfl (fun c => absurd c (by decide)) (fun _ => ?_)
    refine sw_blk k_X8_areMen 3 15 [(0, .inl n), (1, .inl c), (2, .inl b)] [.inl 50, .inl 1, .inl c] σ rfl ?_
    refine sw_callS k_X8_areMen rfl cS_X8_in ml_X8_87 ⟨by decide, by decide⟩ [.inl c, .inl 1, .inl 50] [] rfl rfl (by decide) 18 rfl (sp_in σ c 1 50 (by omega) (by decide) (by decide)) (fun r6 σ7 hq8 => ?_)
    obtain ⟨rfl, ⟨p5, rfl⟩ | ⟨p5, rfl⟩⟩ := hq8
    · refine sw_blk k_X8_areMen 0 18 [(0, .inl n), (1, .inl c), (2, .inl b)] [.inl 1] σ rfl ?_
      refine sw_if_eq k_X8_areMen rfl (by decide) 35 21 (by decide) rfl (fun c => absurd c (by decide)) (fun _ => ?_)
      refine sw_blk k_X8_areMen 3 25 [(0, .inl n), (1, .inl c), (2, .inl b)] [.inl 100, .inl 0, .inl b] σ rfl ?_
      refine sw_callS k_X8_areMen rfl cS_X8_in ml_X8_87 ⟨by decide, by decide⟩ [.inl b, .inl 0, .inl 100] [] rfl rfl (by decide) 28 rfl (sp_in σ b 0 100 (by omega) (by decide) (by decide)) (fun r10 σ11 hq12 => ?_)
      obtain ⟨rfl, ⟨p9, rfl⟩ | ⟨p9, rfl⟩⟩ := hq12
      · refine sw_blk k_X8_areMen 0 28 [(0, .inl n), (1, .inl c), (2, .inl b)] [.inl 1] σ rfl ?_
        refine sw_if_eq k_X8_areMen rfl (by decide) 35 31 (by decide) rfl (fun c => absurd c (by decide)) (fun _ => ?_)
        refine sw_blk k_X8_areMen 2 36 [(0, .inl n), (1, .inl c), (2, .inl b)] [.inl 1] σ rfl ?_
        refine sw_zreturn k_X8_areMen rfl rfl (by decide) ?_
        exact ⟨rfl, Or.inl ⟨by omega, rfl⟩⟩
      · refine sw_blk k_X8_areMen 0 28 [(0, .inl n), (1, .inl c), (2, .inl b)] [.inl 0] σ rfl ?_
        refine sw_if_eq k_X8_areMen rfl (by decide) 35 31 (by decide) rfl (fun _ => ?_) (fun c => absurd (by decide) c)
        refine sw_blk k_X8_areMen 1 36 [(0, .inl n), (1, .inl c), (2, .inl b)] [.inl 0] σ rfl ?_
        refine sw_zreturn k_X8_areMen rfl rfl (by decide) ?_
        exact ⟨rfl, Or.inr ⟨by omega, rfl⟩⟩
    · refine sw_blk k_X8_areMen 0 18 [(0, .inl n), (1, .inl c), (2, .inl b)] [.inl 0] σ rfl ?_
      refine sw_if_eq k_X8_areMen rfl (by decide) 35 21 (by decide) rfl (fun _ => ?_) (fun c => absurd (by decide) c)
      refine sw_blk k_X8_areMen 1 36 [(0, .inl n), (1, .inl c), (2, .inl b)] [.inl 0] σ rfl ?_
      refine sw_zreturn k_X8_areMen rfl rfl (by decide) ?_
      exact ⟨rfl, Or.inr ⟨by omega, rfl⟩⟩
  · refine sw_blk k_X8_areMen 0 8 [(0, .inl n), (1, .inl c), (2, .inl b)] [.inl 0] σ rfl ?_
    refine sw_if_eq k_X8_areMen rfl (by decide) 35 11 (by decide) rfl (fun _ => ?_) (fun c => absurd (by decide) c)
    refine sw_blk k_X8_areMen 1 36 [(0, .inl n), (1, .inl c), (2, .inl b)] [.inl 0] σ rfl ?_
    refine sw_zreturn k_X8_areMen rfl rfl (by decide) ?_
    exact ⟨rfl, Or.inr ⟨by omega, rfl⟩⟩
