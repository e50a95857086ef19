/-- one tick of the class's winding -/
def sw_cst (σ σ' : sw_S) : Prop := (∀ i j, i ≠ 7 → ¬ (i = 6 ∧ j = 1) → ¬ (i = 5 ∧ (j = 6 ∨ j = 7 ∨ j = 8 ∨ j = 9 ∨ j = 13 ∨ j = 14)) → σ' i j = σ i j) ∧ σ' 5 7 = sw_cNP σ ∧ σ' 5 8 = sw_cNV σ ∧ σ' 5 9 = sw_cNH σ ∧ σ' 5 13 = sw_cNE σ ∧ σ' 5 14 = sw_cNB σ ∧ σ' 5 6 = sw_cNR σ ∧ σ' 6 1 = σ 6 1 + 1 ∧ ∀ j : Nat, σ' 7 j = (if (j : Int) = (σ 6 1 % 40 * 3) then sw_cNP σ else if (j : Int) = (σ 6 1 % 40 * 3) + 1 then sw_cNV σ else if (j : Int) = (σ 6 1 % 40 * 3) + 2 then sw_cNH σ else σ 7 j)
/-- so many steps -/
def sw_ch (S : sw_S → sw_S → Prop) : Nat → sw_S → sw_S → Prop
  | 0, a, b => a = b
  | n + 1, a, b => ∃ c, sw_ch S n a c ∧ S c b
theorem sw_ch_fn {S : sw_S → sw_S → Prop} : ∀ (n : Nat) (a b : sw_S), sw_ch S n a b → ∃ f : Nat → sw_S, f 0 = a ∧ f n = b ∧ ∀ i, i < n → S (f i) (f (i + 1))
  | 0, a, b, h => ⟨fun _ => a, rfl, h, fun i hi => by omega⟩
  | n + 1, a, b, h => by
    obtain ⟨c, h1, h2⟩ := h
    obtain ⟨f, f1, f2, f3⟩ := sw_ch_fn n a c h1
    refine ⟨fun i => if i ≤ n then f i else b, ?_, ?_, fun i hi => ?_⟩
    · show (if 0 ≤ n then f 0 else b) = a
      rw [if_pos (by omega), f1]
    · show (if n + 1 ≤ n then f (n + 1) else b) = b
      rw [if_neg (by omega)]
    · show S (if i ≤ n then f i else b) (if i + 1 ≤ n then f (i + 1) else b)
      rcases Nat.lt_or_ge i n with z | z
      · rw [if_pos (by omega), if_pos (by omega)]; exact f3 i z
      · have e : i = n := by omega
        subst e
        rw [if_pos (by omega), if_neg (by omega), f2]; exact h2
/-- a ride that is under way stays within the shaft and its top speed -/
def sw_ro (σ : sw_S) : Prop := σ 5 9 = 1 → (0 ≤ σ 5 6 ∧ σ 5 6 < σ 5 5 ∧ σ 5 5 ≤ 400) ∧ (∀ j : Nat, (j : Int) < σ 5 5 → -σ 1 1 ≤ σ 10 j ∧ σ 10 j ≤ σ 1 1) ∧ ∃ p0 : Int, σ 5 7 = sw_pl (σ 10) p0 (σ 5 6).toNat ∧ ∀ j : Nat, (j : Int) ≤ σ 5 5 → 0 ≤ sw_pl (σ 10) p0 j ∧ sw_pl (σ 10) p0 j ≤ σ 1 0
/-- what holds of the class's shaft and winding between calls, N ticks noted at most -/
def sw_ck (N : Int) (σ : sw_S) : Prop := sw_gs σ ∧ (10 ≤ σ 1 0 ∧ σ 1 0 ≤ 400) ∧ (1 ≤ σ 1 1 ∧ σ 1 1 ≤ 20) ∧ (∀ x : Int, 0 ≤ x → x ≤ σ 1 0 → 1 ≤ σ 2 x.toNat ∧ σ 2 x.toNat ≤ σ 1 1) ∧ (0 ≤ σ 5 7 ∧ σ 5 7 ≤ σ 1 0) ∧ (-20 ≤ σ 5 8 ∧ σ 5 8 ≤ 20) ∧ (1 ≤ σ 5 12 ∧ σ 5 12 ≤ 10) ∧ (∀ j, j < 3 → -1000 ≤ σ 9 j ∧ σ 9 j ≤ 1000) ∧ (0 ≤ σ 5 11 ∧ σ 5 11 ≤ 20) ∧ (0 ≤ σ 6 1 ∧ σ 6 1 ≤ N) ∧ (0 ≤ σ 5 14 ∧ σ 5 14 ≤ N) ∧ (0 ≤ σ 5 13 ∧ σ 5 13 ≤ N) ∧ (0 ≤ σ 5 9 ∧ σ 5 9 ≤ 2) ∧ sw_ro σ
theorem sw_sp_b {D br p v : Int} (hD : 0 ≤ D) : 0 ≤ sw_sp D br p v ∧ sw_sp D br p v ≤ D := by
  unfold sw_sp
  split
  · assumption
  · split <;> omega
theorem sw_sv_b {D br p v : Int} (hv : -20 ≤ v ∧ v ≤ 20) (hb : 1 ≤ br ∧ br ≤ 10) : -20 ≤ sw_sv D br p v ∧ sw_sv D br p v ≤ 20 := by
  unfold sw_sv sw_s1
  split <;> (try split) <;> omega
theorem sw_ck_ro {N : Int} {σ : sw_S} (h : sw_ck N σ) (z : σ 5 9 = 1) : (0 ≤ σ 5 7 + σ 10 (σ 5 6).toNat ∧ σ 5 7 + σ 10 (σ 5 6).toNat ≤ σ 1 0) ∧ (-σ 1 1 ≤ σ 10 (σ 5 6).toNat ∧ σ 10 (σ 5 6).toNat ≤ σ 1 1) ∧ (0 ≤ σ 5 6 ∧ σ 5 6 < σ 5 5 ∧ σ 5 5 ≤ 400) := by
  obtain ⟨g, hD, hV, hL, hpl, hspd, hbr, her, hmg, h61, h514, h513, h59, hro⟩ := h
  obtain ⟨r1, r2, p0, r3, r4⟩ := hro z
  have h1 := r4 ((σ 5 6).toNat + 1) (by omega)
  rw [sw_pl, ← r3] at h1
  exact ⟨h1, r2 _ (by omega), r1⟩
theorem sw_ck_step {N : Int} {σ σ' : sw_S} (h : sw_ck N σ) (hN : N < 1000000) (hs : sw_cst σ σ') : sw_ck (N + 1) σ' := by
  have hr1 := fun z => sw_ck_ro h z
  obtain ⟨g, hD, hV, hL, hpl, hspd, hbr, her, hmg, h61, h514, h513, h59, hro⟩ := h
  obtain ⟨f, s7, s8, s9, s13, s14, s6, s61, sl⟩ := hs
  have sp := sw_sp_b (D := σ 1 0) (br := σ 5 12) (p := σ 5 7) (v := σ 5 8) (by omega)
  have sv := sw_sv_b (D := σ 1 0) (br := σ 5 12) (p := σ 5 7) (v := σ 5 8) hspd hbr
  have b7 : 0 ≤ sw_cNP σ ∧ sw_cNP σ ≤ σ 1 0 := by
    unfold sw_cNP
    by_cases z : σ 5 9 = 1
    · have := hr1 z
      rw [if_pos z]; split <;> omega
    · rw [if_neg z]; split <;> omega
  have b8 : -20 ≤ sw_cNV σ ∧ sw_cNV σ ≤ 20 := by
    unfold sw_cNV
    by_cases z : σ 5 9 = 1
    · have := hr1 z
      rw [if_pos z]; split
      · omega
      · split <;> omega
    · rw [if_neg z]; split <;> omega
  have b9 : 0 ≤ sw_cNH σ ∧ sw_cNH σ ≤ 2 := by
    unfold sw_cNH
    split
    · split
      · split <;> omega
      · split <;> omega
    · split
      · split <;> omega
      · omega
  have b13 : 0 ≤ sw_cNE σ ∧ sw_cNE σ ≤ N + 1 := by
    unfold sw_cNE
    split
    · split
      · omega
      · split <;> omega
    · omega
  have b14 : 0 ≤ sw_cNB σ ∧ sw_cNB σ ≤ N + 1 := by
    unfold sw_cNB
    split
    · split <;> omega
    · omega
  have b6 : sw_g (sw_cNR σ) := by
    have := g 5 6
    unfold sw_cNR
    by_cases z : σ 5 9 = 1
    · have := hr1 z
      rw [if_pos z]; split <;> omega
    · rw [if_neg z]; exact this
  have e1 : σ' 1 = σ 1 := funext fun j => f 1 j (by decide) (by omega) (by omega)
  have e2 : σ' 2 = σ 2 := funext fun j => f 2 j (by decide) (by omega) (by omega)
  have e9 : σ' 9 = σ 9 := funext fun j => f 9 j (by decide) (by omega) (by omega)
  have e10 : σ' 10 = σ 10 := funext fun j => f 10 j (by decide) (by omega) (by omega)
  have e55 := f 5 5 (by decide) (by omega) (by omega)
  have e511 := f 5 11 (by decide) (by omega) (by omega)
  have e512 := f 5 12 (by decide) (by omega) (by omega)
  refine ⟨fun i j => ?_, by rw [e1]; exact hD, by rw [e1]; exact hV, by rw [e1, e2]; exact hL, by rw [e1, s7]; exact b7, by rw [s8]; exact b8, by rw [e512]; exact hbr, by rw [e9]; exact her, by rw [e511]; exact hmg, by omega, by omega, by omega, by omega, fun z => ?_⟩
  · by_cases h7 : i = 7
    · subst h7
      rw [sl j]
      split
      · omega
      · split
        · omega
        · split
          · omega
          · exact g 7 j
    · by_cases h6 : i = 6 ∧ j = 1
      · rw [h6.1, h6.2]; omega
      · by_cases h5 : i = 5 ∧ (j = 6 ∨ j = 7 ∨ j = 8 ∨ j = 9 ∨ j = 13 ∨ j = 14)
        · obtain ⟨rfl, h5⟩ := h5
          rcases h5 with rfl | rfl | rfl | rfl | rfl | rfl
          · rw [s6]; exact b6
          · omega
          · omega
          · omega
          · omega
          · omega
        · rw [f i j h7 h6 h5]; exact g i j
  · rw [s9] at z
    have z1 : σ 5 9 = 1 := by
      unfold sw_cNH at z
      by_cases y : σ 5 9 = 1
      · exact y
      · rw [if_neg y] at z
        split at z
        · split at z <;> omega
        · exact z
    have q1 := hr1 z1
    obtain ⟨r1, r2, p0, r3, r4⟩ := hro z1
    have z2 : sw_cNP σ = σ 5 7 + σ 10 (σ 5 6).toNat ∧ sw_cNR σ = σ 5 6 + 1 ∧ σ 5 6 + 1 < σ 5 5 := by
      unfold sw_cNH at z
      unfold sw_cNP sw_cNR
      rw [if_pos z1] at z ⊢
      rw [if_pos z1]
      split at z
      · split at z <;> omega
      · next nb =>
        rw [if_neg nb, if_neg nb]
        split at z <;> omega
    rw [e1, e10, e55, s7, s6, z2.1, z2.2.1]
    refine ⟨by omega, r2, p0, ?_, r4⟩
    rw [show (σ 5 6 + 1).toNat = (σ 5 6).toNat + 1 by omega, sw_pl, ← r3]
theorem lp_pass (N : Int) (hN : 0 ≤ N ∧ N ≤ 900000) (σ : sw_S) (n0 : Int) (h0 : 1 ≤ n0 ∧ n0 ≤ 400) (Q : Option sw_Vl → sw_S → Prop) (hQ : ∀ τ : sw_S, sw_ck (N + n0) τ → sw_ch sw_cst n0.toNat σ τ → Q (some (.inl (τ 5 9))) τ) : ∀ (n : Nat) (k : Nat) (σt : sw_S), (k : Int) ≤ n0 → sw_ck (N + (k : Int)) σt → sw_ch sw_cst k σ σt → 401 - k < n → sw_E sw_ly sw_rho M_X7_pass 16 [(2, .inl (k : Int)), (0, .inr (.inr 0)), (1, .inl n0)] [] σt Q := by
  intro n
  induction n with
  | zero =>
    intro k σt hk c hc hn
    omega
  | succ n ih =>
    intro k σt hk c hc hn
    refine sw_blk k_X7_pass 2 18 [(2, .inl (k : Int)), (0, .inr (.inr 0)), (1, .inl n0)] [.inl n0, .inl (k : Int)] σt rfl ?_
    refine sw_icmp_ge k_X7_pass rfl (by omega) (by omega) 34 21 (by decide) rfl (fun c1 => ?_) (fun c1 => ?_)
    · refine sw_blk k_X7_pass 3 41 [(2, .inl (k : Int)), (0, .inr (.inr 0)), (1, .inl n0)] [.inl (σt 5 9)] σt rfl ?_
      refine sw_ireturn k_X7_pass rfl rfl ?_
      have e : (k : Int) = n0 := by omega
      rw [e] at c
      rw [show k = n0.toNat by omega] at hc
      exact hQ σt c hc
    · refine sw_blk k_X7_pass 2 25 [(2, .inl (k : Int)), (0, .inr (.inr 0)), (1, .inl n0)] [.inr (.inr 5)] σt rfl ?_
      refine sw_callV k_X7_pass rfl cV_X6_passTick ml_X7_133 ⟨by decide, by decide⟩ 5 rfl rfl [] [] rfl rfl (Nat.le_of_ble_eq_true rfl) 28 rfl (sp_passTick σt c.1 c.2.1 c.2.2.1 c.2.2.2.1 c.2.2.2.2.1 c.2.2.2.2.2.1 c.2.2.2.2.2.2.1 c.2.2.2.2.2.2.2.1 c.2.2.2.2.2.2.2.2.1 (fun z => by have := (sw_ck_ro c z).2.2; omega) (fun z => by have := (sw_ck_ro c z).2.1; have := c.2.2.1; omega) (by have := c.2.2.2.2.2.2.2.2.2.1; omega) (by have := c.2.2.2.2.2.2.2.2.2.2.1; omega)) (fun r2 σ3 hq4 => ?_)
      obtain ⟨rfl, hst⟩ := hq4
      refine sw_blk k_X7_pass 2 16 [(2, .inl ((k : Int) + 1)), (0, .inr (.inr 0)), (1, .inl n0)] [] σ3 rfl ?_
      exact ih (k + 1) σ3 (by omega) (by have h9 := sw_ck_step c (by omega) hst; rw [show N + ((k + 1 : Nat) : Int) = N + (k : Int) + 1 by omega]; exact h9) ⟨_, hc, hst⟩ (by omega)
theorem cc_pass (σ : sw_S) (N : Int) (hN : 0 ≤ N ∧ N ≤ 900000) (c : sw_ck N σ) (k : Int) (gk : sw_g k) : sw_Con sw_ly sw_rho M_X7_pass [.inr (.inr 0), .inl k] σ (fun r σ' => (¬ (1 ≤ k ∧ k ≤ 400) ∧ r = some (.inl (-2)) ∧ σ = σ') ∨ ((1 ≤ k ∧ k ≤ 400) ∧ sw_ck (N + k) σ' ∧ sw_ch sw_cst k.toNat σ σ' ∧ r = some (.inl (σ' 5 9)))) := by
  refine sw_con (by decide) (Nat.le_of_ble_eq_true rfl) ?_
  refine sw_blk k_X7_pass 3 5 [(0, .inr (.inr 0)), (1, .inl k)] [.inl 400, .inl 1, .inl k] σ rfl ?_
  refine sw_callS k_X7_pass rfl cS_X7_within ml_X7_63 ⟨by decide, by decide⟩ [.inl k, .inl 1, .inl 400] [] rfl rfl (Nat.le_of_ble_eq_true rfl) 8 rfl (sp_within σ k 1 400 (by omega) (by decide) (by decide)) (fun r2 σ3 hq4 => ?_)
  obtain ⟨rfl, ⟨p1, rfl⟩ | ⟨p1, rfl⟩⟩ := hq4
  · refine sw_blk k_X7_pass 0 8 [(0, .inr (.inr 0)), (1, .inl k)] [.inl 1] σ rfl ?_
    refine sw_if_ne k_X7_pass rfl (by decide) 14 11 (by decide) rfl (fun _ => ?_) (fun c => absurd c (by decide))
    refine sw_blk k_X7_pass 2 16 [(2, .inl 0), (0, .inr (.inr 0)), (1, .inl k)] [] σ rfl ?_
    exact lp_pass N hN σ k (by omega) _ (fun τ y1 y2 => Or.inr ⟨by omega, y1, y2, rfl⟩) 402 0 σ (by omega) (by rw [show N + ((0 : Nat) : Int) = N by omega]; exact c) rfl (by omega)
  · refine sw_blk k_X7_pass 0 8 [(0, .inr (.inr 0)), (1, .inl k)] [.inl 0] σ rfl ?_
    refine sw_if_ne k_X7_pass rfl (by decide) 14 11 (by decide) rfl (fun c => absurd (by decide) c) (fun _ => ?_)
    refine sw_blk k_X7_pass 1 13 [(0, .inr (.inr 0)), (1, .inl k)] [.inl (-2)] σ rfl ?_
    refine sw_ireturn k_X7_pass rfl rfl ?_
    exact Or.inl ⟨by omega, rfl, rfl⟩
/-- a digest goes on over a row -/
def sw_hs (f : Nat → Int) (h : Int) : Nat → Int
  | 0 => h
  | n + 1 => 31 * sw_hs f h n + f n
theorem sw_hs_cong {f g : Nat → Int} (h : Int) : ∀ n, (∀ j, j < n → f j = g j) → sw_hs f h n = sw_hs g h n
  | 0, _ => rfl
  | n + 1, e => by rw [sw_hs, sw_hs, sw_hs_cong h n (fun j hj => e j (by omega)), e n (by omega)]
theorem sw_told_b {p a b c : Int} (hp : 0 ≤ p ∧ p ≤ 400) (ha : -1000 ≤ a ∧ a ≤ 1000) (hb : -1000 ≤ b ∧ b ≤ 1000) (hc : -1000 ≤ c ∧ c ≤ 1000) : -1000 ≤ sw_told p a b c ∧ sw_told p a b c ≤ 1400 := by
  unfold sw_told
  omega
theorem sw_ite_g {p : Prop} [Decidable p] {a b : Int} (ha : sw_g a) (hb : sw_g b) : sw_g (if p then a else b) := by
  split
  · exact ha
  · exact hb
theorem sw_stc_g {N : Int} {σ : sw_S} (h : sw_ck N σ) (x : Int) : sw_g (sw_stc σ x) := by
  have hr1 := fun z => sw_ck_ro h z
  obtain ⟨g, hD, hV, hL, hpl, hspd, hbr, her, hmg, h61, h514, h513, h59, hro⟩ := h
  have t := sw_told_b (p := σ 5 7) (by omega) (her 0 (by decide)) (her 1 (by decide)) (her 2 (by decide))
  have c := sw_cnt_le (σ 8) 8
  have t7 : sw_g (if σ 5 9 = 1 then σ 5 5 - σ 5 6 else 0) := by
    by_cases z : σ 5 9 = 1
    · have := hr1 z
      rw [if_pos z]; omega
    · rw [if_neg z]; omega
  unfold sw_stc
  refine sw_ite_g (g 5 7) (sw_ite_g (g 5 8) (sw_ite_g (g 5 9) (sw_ite_g (g 5 10) (sw_ite_g (by omega) (sw_ite_g (by omega) (sw_ite_g (g 6 1) (sw_ite_g t7 (sw_ite_g (g 5 13) (sw_ite_g (g 5 14) (sw_ite_g (g 1 3) (sw_ite_g (g 0 8) (sw_ite_g (g 0 9) (by omega)))))))))))))
theorem lp_dig3 (σ : sw_S) (N : Int) (c : sw_ck N σ) (hσ : sw_gs σ) (K : Int) (hK : K = (if σ 5 9 = 1 then σ 5 5 - σ 5 6 else 0)) (Q : Option sw_Vl → sw_S → Prop) (hQ : Q (some (.inr (.inl (sw_hs (fun j : Nat => σ 10 ((σ 5 6).toNat + j)) (sw_hs (σ 13) (sw_hs (fun j : Nat => sw_stc σ (j : Int)) 17 12) 60) (if σ 5 9 = 1 then σ 5 5 - σ 5 6 else 0).toNat)))) σ) : ∀ (n : Nat) (k : Nat) (h : Int), (k : Int) ≤ K → h = (sw_hs (fun j : Nat => σ 10 ((σ 5 6).toNat + j)) (sw_hs (σ 13) (sw_hs (fun j : Nat => sw_stc σ (j : Int)) 17 12) 60) k) → 500 - k < n → sw_E sw_ly sw_rho M_X7_digest 73 [(4, .inl (k : Int)), (3, .inl K), (1, .inr (.inl h)), (0, .inr (.inr 0))] [] σ Q := by
  intro n
  induction n with
  | zero =>
    intro k h hk hh hn
    omega
  | succ n ih =>
    intro k h hk hh hn
    have hKb : 0 ≤ K ∧ K ≤ 400 := by
      by_cases z : σ 5 9 = 1
      · have := (sw_ck_ro c z).2.2; rw [if_pos z] at hK; omega
      · rw [if_neg z] at hK; omega
    refine sw_blk k_X7_digest 2 76 [(4, .inl (k : Int)), (3, .inl K), (1, .inr (.inl h)), (0, .inr (.inr 0))] [.inl K, .inl (k : Int)] σ rfl ?_
    refine sw_icmp_ge k_X7_digest rfl (by omega) (by omega) 111 79 (by decide) rfl (fun c1 => ?_) (fun c1 => ?_)
    · refine sw_blk k_X7_digest 1 112 [(4, .inl (k : Int)), (3, .inl K), (1, .inr (.inl h)), (0, .inr (.inr 0))] [.inr (.inl h)] σ rfl ?_
      refine sw_lreturn k_X7_digest rfl rfl ?_
      have e : (k : Int) = K := by omega
      rw [show (if σ 5 9 = 1 then σ 5 5 - σ 5 6 else 0).toNat = k by rw [← hK]; omega, ← hh] at hQ
      exact hQ
    · have hk1 : σ 5 9 = 1 := by
        by_cases z : σ 5 9 = 1
        · exact z
        · exfalso; rw [if_neg z] at hK; omega
      have hro := (sw_ck_ro c hk1).2.2
      have hK2 := hK
      rw [if_pos hk1] at hK2
      refine sw_blk k_X7_digest 11 101 [(4, .inl (k : Int)), (3, .inl K), (1, .inr (.inl h)), (0, .inr (.inr 0))] [.inl ((σ 5 6) + (k : Int)), .inr (.inr 10), .inr (.inl (31 * h))] σ rfl ?_
      refine sw_iald k_X7_digest rfl (i := 10) (n := 400) rfl (by decide) (by omega) (by omega) 102 rfl ?_
      refine sw_blk k_X7_digest 0 102 [(4, .inl (k : Int)), (3, .inl K), (1, .inr (.inl h)), (0, .inr (.inr 0))] [.inl (σ 10 (((σ 5 6) + (k : Int)).toNat)), .inr (.inl (31 * h))] σ rfl ?_
      refine sw_i2l k_X7_digest rfl (hσ 10 _) 103 rfl ?_
      refine sw_blk k_X7_digest 4 73 [(4, .inl ((k : Int) + 1)), (1, .inr (.inl ((31 * h) + (σ 10 (((σ 5 6) + (k : Int)).toNat))))), (3, .inl K), (0, .inr (.inr 0))] [] σ rfl ?_
      refine sw_Lsub [(4, .inl ((k : Int) + 1)), (3, .inl K), (1, .inr (.inl ((31 * h) + (σ 10 (((σ 5 6) + (k : Int)).toNat))))), (0, .inr (.inr 0))] [0, 2, 1, 3] rfl ?_
      exact ih (k + 1) _ (by omega) (by rw [hh, show (σ 5 6 + (k : Int)).toNat = (σ 5 6).toNat + k by omega]; rfl) (by omega)
theorem lp_dig2 (σ : sw_S) (N : Int) (c : sw_ck N σ) (hσ : sw_gs σ) (Q : Option sw_Vl → sw_S → Prop) (hQ : Q (some (.inr (.inl (sw_hs (fun j : Nat => σ 10 ((σ 5 6).toNat + j)) (sw_hs (σ 13) (sw_hs (fun j : Nat => sw_stc σ (j : Int)) 17 12) 60) (if σ 5 9 = 1 then σ 5 5 - σ 5 6 else 0).toNat)))) σ) : ∀ (n : Nat) (k : Nat) (h : Int), (k : Int) ≤ 60 → h = (sw_hs (σ 13) (sw_hs (fun j : Nat => sw_stc σ (j : Int)) 17 12) k) → 500 - k < n → sw_E sw_ly sw_rho M_X7_digest 33 [(3, .inl (k : Int)), (1, .inr (.inl h)), (0, .inr (.inr 0))] [] σ Q := by
  intro n
  induction n with
  | zero =>
    intro k h hk hh hn
    omega
  | succ n ih =>
    intro k h hk hh hn
    refine sw_blk k_X7_digest 2 36 [(3, .inl (k : Int)), (1, .inr (.inl h)), (0, .inr (.inr 0))] [.inl 60, .inl (k : Int)] σ rfl ?_
    refine sw_icmp_ge k_X7_digest rfl (by omega) (by decide) 62 39 (by decide) rfl (fun c1 => ?_) (fun c1 => ?_)
    · refine sw_blk k_X7_digest 2 66 [(3, .inl (k : Int)), (1, .inr (.inl h)), (0, .inr (.inr 0))] [.inr (.inr 5)] σ rfl ?_
      refine sw_callV k_X7_digest rfl cV_X6_ticksLeft ml_X7_154 ⟨by decide, by decide⟩ 5 rfl rfl [] [] rfl rfl (Nat.le_of_ble_eq_true rfl) 69 rfl (sp_ticksLeft σ  (hσ 5 _)) (fun r2 σ3 hq4 => ?_)
      obtain ⟨rfl, rfl⟩ := hq4
      refine sw_blk k_X7_digest 3 73 [(4, .inl 0), (3, .inl (if σ 5 9 = 1 then σ 5 5 - σ 5 6 else 0)), (1, .inr (.inl h)), (0, .inr (.inr 0))] [] σ rfl ?_
      have e : k = 60 := by omega
      subst e
      exact lp_dig3 σ N c hσ _ rfl Q hQ 501 0 h (by show (0 : Int) ≤ (if σ 5 9 = 1 then σ 5 5 - σ 5 6 else 0); by_cases z : σ 5 9 = 1; (have := (sw_ck_ro c z).2.2; rw [if_pos z]; omega); (rw [if_neg z]; omega)) hh (by omega)
    · refine sw_blk k_X7_digest 7 52 [(3, .inl (k : Int)), (1, .inr (.inl h)), (0, .inr (.inr 0))] [.inl (k : Int), .inr (.inr 13), .inr (.inl (31 * h))] σ rfl ?_
      refine sw_iald k_X7_digest rfl (i := 13) (n := 60) rfl (by decide) (by omega) (by omega) 53 rfl ?_
      refine sw_blk k_X7_digest 0 53 [(3, .inl (k : Int)), (1, .inr (.inl h)), (0, .inr (.inr 0))] [.inl (σ 13 k), .inr (.inl (31 * h))] σ rfl ?_
      refine sw_i2l k_X7_digest rfl (hσ 13 _) 54 rfl ?_
      refine sw_blk k_X7_digest 4 33 [(3, .inl ((k : Int) + 1)), (1, .inr (.inl ((31 * h) + (σ 13 k)))), (0, .inr (.inr 0))] [] σ rfl ?_
      exact ih (k + 1) _ (by omega) (by rw [hh]; rfl) (by omega)
theorem lp_dig1 (σ : sw_S) (N : Int) (c : sw_ck N σ) (hσ : sw_gs σ) (Q : Option sw_Vl → sw_S → Prop) (hQ : Q (some (.inr (.inl (sw_hs (fun j : Nat => σ 10 ((σ 5 6).toNat + j)) (sw_hs (σ 13) (sw_hs (fun j : Nat => sw_stc σ (j : Int)) 17 12) 60) (if σ 5 9 = 1 then σ 5 5 - σ 5 6 else 0).toNat)))) σ) : ∀ (n : Nat) (k : Nat) (h : Int), (k : Int) ≤ 12 → h = (sw_hs (fun j : Nat => sw_stc σ (j : Int)) 17 k) → 500 - k < n → sw_E sw_ly sw_rho M_X7_digest 6 [(3, .inl (k : Int)), (1, .inr (.inl h)), (0, .inr (.inr 0))] [] σ Q := by
  intro n
  induction n with
  | zero =>
    intro k h hk hh hn
    omega
  | succ n ih =>
    intro k h hk hh hn
    refine sw_blk k_X7_digest 2 9 [(3, .inl (k : Int)), (1, .inr (.inl h)), (0, .inr (.inr 0))] [.inl 12, .inl (k : Int)] σ rfl ?_
    refine sw_icmp_ge k_X7_digest rfl (by omega) (by decide) 31 12 (by decide) rfl (fun c1 => ?_) (fun c1 => ?_)
    · refine sw_blk k_X7_digest 2 33 [(3, .inl 0), (1, .inr (.inl h)), (0, .inr (.inr 0))] [] σ rfl ?_
      have e : k = 12 := by omega
      subst e
      exact lp_dig2 σ N c hσ Q hQ 501 0 h (by omega) hh (by omega)
    · refine sw_blk k_X7_digest 5 19 [(3, .inl (k : Int)), (1, .inr (.inl h)), (0, .inr (.inr 0))] [.inl (k : Int), .inr (.inr 0), .inr (.inl (31 * h))] σ rfl ?_
      refine sw_callV k_X7_digest rfl cV_X7_state ml_X7_283 ⟨by decide, by decide⟩ 0 rfl rfl [.inl (k : Int)] [.inr (.inl (31 * h))] rfl rfl (Nat.le_of_ble_eq_true rfl) 22 rfl (cc_state σ hσ (k : Int) (by omega)) (fun r2 σ3 hq4 => ?_)
      obtain ⟨rfl, rfl⟩ := hq4
      refine sw_blk k_X7_digest 0 22 [(3, .inl (k : Int)), (1, .inr (.inl h)), (0, .inr (.inr 0))] [.inl (sw_stc σ (k : Int)), .inr (.inl (31 * h))] σ rfl ?_
      refine sw_i2l k_X7_digest rfl (sw_stc_g c _) 23 rfl ?_
      refine sw_blk k_X7_digest 4 6 [(3, .inl ((k : Int) + 1)), (1, .inr (.inl ((31 * h) + (sw_stc σ (k : Int))))), (0, .inr (.inr 0))] [] σ rfl ?_
      exact ih (k + 1) _ (by omega) (by rw [hh]; rfl) (by omega)
theorem cc_digest (σ : sw_S) (N : Int) (c : sw_ck N σ) : sw_Con sw_ly sw_rho M_X7_digest [.inr (.inr 0)] σ (fun r σ' => σ = σ' ∧ r = some (.inr (.inl (sw_hs (fun j : Nat => σ 10 ((σ 5 6).toNat + j)) (sw_hs (σ 13) (sw_hs (fun j : Nat => sw_stc σ (j : Int)) 17 12) 60) (if σ 5 9 = 1 then σ 5 5 - σ 5 6 else 0).toNat)))) := by
  refine sw_con (by decide) (Nat.le_of_ble_eq_true rfl) ?_
  refine sw_blk k_X7_digest 4 6 [(3, .inl 0), (1, .inr (.inl 17)), (0, .inr (.inr 0))] [] σ rfl ?_
  exact lp_dig1 σ N c c.1 _ ⟨rfl, rfl⟩ 501 0 17 (by omega) rfl (by omega)
