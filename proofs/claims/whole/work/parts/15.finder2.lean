/-- the rows that the finder keeps are right -/
def sw_rw (σ : sw_S) (q w k : Int) : Prop := ∀ d b : Int, 0 ≤ d → d ≤ k → 0 ≤ b → b ≤ σ 1 1 → sw_F (sw_R (σ 2) (σ 1 0) (σ 1 1) (σ 1 2) q w) d b (σ 4 (d * 21 + b).toNat)
def sw_fn (σ : sw_S) : Prop := σ 3 2 = -1 ∨ ((0 ≤ σ 3 2 ∧ σ 3 2 ≤ σ 1 0) ∧ (σ 3 3 = 1 ∨ σ 3 3 = -1) ∧ 0 ≤ σ 3 4 ∧ (0 ≤ σ 3 2 - σ 3 3 * σ 3 4 ∧ σ 3 2 - σ 3 3 * σ 3 4 ≤ σ 1 0) ∧ sw_rw σ (σ 3 2) (σ 3 3) (σ 3 4))
/-- nothing has changed but what the finder keeps for itself -/
def sw_fk (σ τ : sw_S) : Prop := ∀ i j, i ≠ 4 → (i = 3 → j ≠ 2 ∧ j ≠ 3 ∧ j ≠ 4) → τ i j = σ i j
theorem sw_fk_rf (σ : sw_S) : sw_fk σ σ := fun _ _ _ _ => rfl
theorem sw_fk_tr {σ τ υ : sw_S} (h : sw_fk σ τ) (k : sw_fk τ υ) : sw_fk σ υ := fun i j a b => (k i j a b).trans (h i j a b)
theorem sw_fk_1 {σ τ : sw_S} (h : sw_fk σ τ) (j : Nat) : τ 1 j = σ 1 j := h 1 j (by decide) (fun z => absurd z (by decide))
theorem sw_fk_2 {σ τ : sw_S} (h : sw_fk σ τ) : τ 2 = σ 2 := funext fun j => h 2 j (by decide) (fun z => absurd z (by decide))
theorem sw_R_one {lim : Nat → Int} {D V A q w : Int} (hw : w = 1 ∨ w = -1) (hV : 1 ≤ V) (hA : 1 ≤ A) (hL : ∀ x : Int, 0 ≤ x → x ≤ D → 1 ≤ lim x.toNat) (hq : 0 ≤ q ∧ q ≤ D) : ∀ (n : Nat) (b : Int), 0 ≤ b → b ≤ 1 → 0 ≤ q - w * n ∧ q - w * n ≤ D → sw_R lim D V A q w n (n : Int) b
  | 0, b, h0, h1, _ => ⟨rfl, by omega⟩
  | n + 1, b, h0, h1, hp => by
    have hp2 : 0 ≤ q - w * (n : Int) ∧ q - w * (n : Int) ≤ D := by rcases hw with rfl | rfl <;> omega
    have ha : sw_abs (w * 1) = 1 := by unfold sw_abs; rcases hw with rfl | rfl <;> decide
    refine ⟨1, by omega, by omega, by omega, by omega, ⟨by rw [ha]; exact hV, ?_, ?_, ?_⟩, ?_⟩
    · rcases hw with rfl | rfl <;> omega
    · rcases hw with rfl | rfl <;> omega
    · rw [ha]
      intro x hx
      exact hL x (by rcases hw with rfl | rfl <;> omega) (by rcases hw with rfl | rfl <;> omega)
    · rw [show ((n + 1 : Nat) : Int) - 1 = (n : Int) by omega]
      exact sw_R_one hw hV hA hL hq n 1 (by omega) (by omega) hp2
theorem sw_R_le {lim : Nat → Int} {D V A q w : Int} : ∀ (n : Nat) (d b : Int), sw_R lim D V A q w n d b → (n : Int) ≤ d
  | 0, d, b, h => by have := h.1; omega
  | n + 1, d, b, h => by
    obtain ⟨s, h1, h2, -, -, -, h6⟩ := h
    have := sw_R_le n _ _ h6
    omega
/-- the best speed toward the end where n ticks more are left behind it -/
def sw_bs (lim : Nat → Int) (D V A q w : Int) (n : Nat) (d b s : Int) : Prop := 1 ≤ s ∧ s ≤ d ∧ b - A ≤ s ∧ s ≤ b + A ∧ sw_tk lim D V (q - w * d) (w * s) ∧ sw_R lim D V A q w n (d - s) s ∧ ∀ t, s < t → t ≤ d → t ≤ b + A → sw_tk lim D V (q - w * d) (w * t) → ¬ sw_R lim D V A q w n (d - t) t
/-- a row has, from place k on, the speeds of the ride -/
def sw_gp (lim : Nat → Int) (D V A q w : Int) : Nat → Int → Int → (Nat → Int) → Nat → Prop
  | 0, _, _, _, _ => True
  | n + 1, d, b, f, k => ∃ s, f k = w * s ∧ sw_bs lim D V A q w n d b s ∧ sw_gp lim D V A q w n (d - s) s f (k + 1)
theorem sw_bs_one {lim : Nat → Int} {D V A q w : Int} {n : Nat} {d b s t : Int} (h : sw_bs lim D V A q w n d b s) (k : sw_bs lim D V A q w n d b t) : s = t := by
  obtain ⟨h1, h2, h3, h4, h5, h6, h7⟩ := h
  obtain ⟨k1, k2, k3, k4, k5, k6, k7⟩ := k
  rcases Int.lt_trichotomy s t with z | z | z
  · exact absurd k6 (h7 t z k2 k4 k5)
  · exact z
  · exact absurd h6 (k7 s z h2 h4 h5)
theorem sw_gp_one {lim : Nat → Int} {D V A q w : Int} {f g : Nat → Int} : ∀ {n : Nat} {d b : Int} {k k' : Nat}, sw_gp lim D V A q w n d b f k → sw_gp lim D V A q w n d b g k' → ∀ i, i < n → f (k + i) = g (k' + i)
  | 0, _, _, _, _, _, _, i, hi => absurd hi (Nat.not_lt_zero i)
  | n + 1, d, b, k, k', h, h', i, hi => by
    obtain ⟨s, e1, b1, g1⟩ := h
    obtain ⟨t, e2, b2, g2⟩ := h'
    have e := sw_bs_one b1 b2
    subst e
    cases i with
    | zero => rw [Nat.add_zero, Nat.add_zero, e1, e2]
    | succ i =>
      have := sw_gp_one g1 g2 i (by omega)
      rw [show k + (i + 1) = k + 1 + i by omega, show k' + (i + 1) = k' + 1 + i by omega]
      exact this
theorem sw_gp_cong {lim : Nat → Int} {D V A q w : Int} {f g : Nat → Int} : ∀ {n : Nat} {d b : Int} {k : Nat}, (∀ i, k ≤ i → i < k + n → g i = f i) → sw_gp lim D V A q w n d b f k → sw_gp lim D V A q w n d b g k
  | 0, _, _, _, _, _ => trivial
  | n + 1, d, b, k, h, h' => by
    obtain ⟨s, e1, b1, g1⟩ := h'
    exact ⟨s, by rw [h k (by omega) (by omega)]; exact e1, b1, sw_gp_cong (fun i h1 h2 => h i (by omega) (by omega)) g1⟩
theorem lp_aim (σ : sw_S) (hσ : sw_gs σ) (hD : 10 ≤ σ 1 0 ∧ σ 1 0 ≤ 400) (hV : 1 ≤ σ 1 1 ∧ σ 1 1 ≤ 20) (hA : 1 ≤ σ 1 2 ∧ σ 1 2 ≤ 5) (hL : ∀ x : Int, 0 ≤ x → x ≤ σ 1 0 → 1 ≤ σ 2 x.toNat ∧ σ 2 x.toNat ≤ σ 1 1) (q w : Int) (hq : 0 ≤ q ∧ q ≤ σ 1 0) (hw : w = 1 ∨ w = -1) (Q : Option sw_Vl → sw_S → Prop) (hQ : ∀ τ : sw_S, sw_fk σ τ → sw_gs τ → τ 3 2 = q → τ 3 3 = w → sw_fn τ → Q none τ) : ∀ (n : Nat) (b : Int) (τ : sw_S), (0 ≤ b ∧ b ≤ σ 1 1 + 1) → sw_fk σ τ → sw_gs τ → τ 3 2 = q → τ 3 3 = w → τ 3 4 = 0 → (∀ c : Int, 0 ≤ c → c < b → τ 4 c.toNat = if c ≤ σ 1 2 then 0 else 1000000) → (30 - b).toNat < n → sw_E sw_ly sw_rho M_X1_aimAt 34 [(3, .inl b), (0, .inr (.inr 3)), (1, .inl q), (2, .inl w)] [] τ Q := by
  intro n
  induction n with
  | zero =>
    intro b τ hb hk hτ t2 t3 t4 hr hn
    omega
  | succ n ih =>
    intro b τ hb hk hτ t2 t3 t4 hr hn
    have e10 : τ 1 0 = σ 1 0 := sw_fk_1 hk 0
    have e11 : τ 1 1 = σ 1 1 := sw_fk_1 hk 1
    have e12 : τ 1 2 = σ 1 2 := sw_fk_1 hk 2
    refine sw_blk k_X1_aimAt 4 42 [(3, .inl b), (0, .inr (.inr 3)), (1, .inl q), (2, .inl w)] [.inl (τ 1 1), .inl b] τ rfl ?_
    refine sw_icmp_gt k_X1_aimAt rfl (by omega) (by omega) 74 45 (by decide) rfl (fun c1 => ?_) (fun c1 => ?_)
    · refine sw_vreturn k_X1_aimAt rfl rfl ?_
      refine hQ τ hk hτ t2 t3 (Or.inr ⟨by rw [t2, e10]; exact hq, by rw [t3]; exact hw, by omega, by rw [t2, t3, t4, e10, Int.mul_zero]; omega, fun d c d1 d2 c1 c2 => ?_⟩)
      have ed : d = 0 := by omega
      subst ed
      have hx := hr c c1 (by omega)
      rw [show (0 : Int) * 21 + c = c by omega, hx]
      by_cases z : c ≤ σ 1 2
      · rw [if_pos z]; exact Or.inr ⟨by omega, by omega, ⟨rfl, by rw [e12]; exact z⟩, fun m hm => by omega⟩
      · rw [if_neg z]; refine Or.inl ⟨rfl, fun n => ?_⟩
        cases n with
        | zero => exact fun y => z (by have := y.2; omega)
        | succ n => rintro ⟨s, y1, y2, -⟩; omega
    · refine sw_blk k_X1_aimAt 7 58 [(3, .inl b), (0, .inr (.inr 3)), (1, .inl q), (2, .inl w)] [.inl (τ 1 2), .inl b, .inl b, .inr (.inr 4)] τ rfl ?_
      refine sw_icmp_gt k_X1_aimAt rfl (by omega) (by omega) 65 61 (by decide) rfl (fun c2 => ?_) (fun c2 => ?_)
      · refine sw_blk k_X1_aimAt 1 67 [(3, .inl b), (0, .inr (.inr 3)), (1, .inl q), (2, .inl w)] [.inl 1000000, .inl b, .inr (.inr 4)] τ rfl ?_
        refine sw_iast k_X1_aimAt rfl (i := 4) (n := 8421) rfl (by decide) (by omega) (by omega) 68 rfl ?_
        refine sw_blk k_X1_aimAt 2 34 [(3, .inl (b + 1)), (0, .inr (.inr 3)), (1, .inl q), (2, .inl w)] [] (sw_u τ 4 b.toNat 1000000) rfl ?_
        refine ih (b + 1) _ (by omega) (fun i j a1 a2 => (sw_u_row _ _ a1).trans (hk i j a1 a2)) (sw_gs_u hτ _ _ (by decide)) t2 t3 t4 (fun c c1 c2 => ?_) (by omega)
        by_cases z : c = b
        · subst z; rw [sw_u_same]; omega
        · rw [sw_u_ne _ _ (fun y => z (by omega))]; exact hr c c1 (by omega)
      · refine sw_blk k_X1_aimAt 2 67 [(3, .inl b), (0, .inr (.inr 3)), (1, .inl q), (2, .inl w)] [.inl 0, .inl b, .inr (.inr 4)] τ rfl ?_
        refine sw_iast k_X1_aimAt rfl (i := 4) (n := 8421) rfl (by decide) (by omega) (by omega) 68 rfl ?_
        refine sw_blk k_X1_aimAt 2 34 [(3, .inl (b + 1)), (0, .inr (.inr 3)), (1, .inl q), (2, .inl w)] [] (sw_u τ 4 b.toNat 0) rfl ?_
        refine ih (b + 1) _ (by omega) (fun i j a1 a2 => (sw_u_row _ _ a1).trans (hk i j a1 a2)) (sw_gs_u hτ _ _ (by decide)) t2 t3 t4 (fun c c1 c2 => ?_) (by omega)
        by_cases z : c = b
        · subst z; rw [sw_u_same]; omega
        · rw [sw_u_ne _ _ (fun y => z (by omega))]; exact hr c c1 (by omega)
theorem sp_aimAt (σ : sw_S) (hσ : sw_gs σ) (hD : 10 ≤ σ 1 0 ∧ σ 1 0 ≤ 400) (hV : 1 ≤ σ 1 1 ∧ σ 1 1 ≤ 20) (hA : 1 ≤ σ 1 2 ∧ σ 1 2 ≤ 5) (hL : ∀ x : Int, 0 ≤ x → x ≤ σ 1 0 → 1 ≤ σ 2 x.toNat ∧ σ 2 x.toNat ≤ σ 1 1) (q w : Int) (hq : 0 ≤ q ∧ q ≤ σ 1 0) (hw : w = 1 ∨ w = -1) (hf : sw_fn σ) : sw_Con sw_ly sw_rho M_X1_aimAt [.inr (.inr 3), .inl q, .inl w] σ (fun r σ' => r = none ∧ sw_fk σ σ' ∧ sw_gs σ' ∧ σ' 3 2 = q ∧ σ' 3 3 = w ∧ sw_fn σ') := by
  refine sw_con (by decide) (Nat.le_of_ble_eq_true rfl) ?_
  refine sw_blk k_X1_aimAt 3 5 [(0, .inr (.inr 3)), (1, .inl q), (2, .inl w)] [.inl q, .inl (σ 3 2)] σ rfl ?_
  refine sw_icmp_ne k_X1_aimAt rfl (hσ 3 _) (by omega) 17 8 (by decide) rfl (fun c1 => ?_) (fun c1 => ?_)
  · refine sw_blk k_X1_aimAt 11 34 [(3, .inl 0), (0, .inr (.inr 3)), (1, .inl q), (2, .inl w)] [] (sw_u (sw_u (sw_u σ 3 2 q) 3 3 w) 3 4 0) rfl ?_
    refine lp_aim σ hσ hD hV hA hL q w hq hw _ (fun τ a1 a2 a3 a4 a5 => ⟨rfl, a1, a2, a3, a4, a5⟩) 31 0 _ (by omega) (fun i j a1 a2 => ?_) (sw_gs_u (sw_gs_u (sw_gs_u hσ _ _ (by omega)) _ _ (by omega)) _ _ (by decide)) rfl rfl rfl (fun c c1 c2 => by omega) (by omega)
    rw [sw_u_ne _ _ (fun y => (a2 y.1).2.2 y.2), sw_u_ne _ _ (fun y => (a2 y.1).2.1 y.2), sw_u_ne _ _ (fun y => (a2 y.1).1 y.2)]
  · refine sw_blk k_X1_aimAt 3 13 [(0, .inr (.inr 3)), (1, .inl q), (2, .inl w)] [.inl w, .inl (σ 3 3)] σ rfl ?_
    refine sw_icmp_ne k_X1_aimAt rfl (hσ 3 _) (by omega) 17 16 (by decide) rfl (fun c2 => ?_) (fun c2 => ?_)
    · refine sw_blk k_X1_aimAt 11 34 [(3, .inl 0), (0, .inr (.inr 3)), (1, .inl q), (2, .inl w)] [] (sw_u (sw_u (sw_u σ 3 2 q) 3 3 w) 3 4 0) rfl ?_
      refine lp_aim σ hσ hD hV hA hL q w hq hw _ (fun τ a1 a2 a3 a4 a5 => ⟨rfl, a1, a2, a3, a4, a5⟩) 31 0 _ (by omega) (fun i j a1 a2 => ?_) (sw_gs_u (sw_gs_u (sw_gs_u hσ _ _ (by omega)) _ _ (by omega)) _ _ (by decide)) rfl rfl rfl (fun c c1 c2 => by omega) (by omega)
      rw [sw_u_ne _ _ (fun y => (a2 y.1).2.2 y.2), sw_u_ne _ _ (fun y => (a2 y.1).2.1 y.2), sw_u_ne _ _ (fun y => (a2 y.1).1 y.2)]
    · refine sw_vreturn k_X1_aimAt rfl rfl ?_
      exact ⟨rfl, sw_fk_rf σ, hσ, by omega, by omega, hf⟩
theorem lp_tb (σ : sw_S) (hσ : sw_gs σ) (hD : 10 ≤ σ 1 0 ∧ σ 1 0 ≤ 400) (hV : 1 ≤ σ 1 1 ∧ σ 1 1 ≤ 20) (hA : 1 ≤ σ 1 2 ∧ σ 1 2 ≤ 5) (hL : ∀ x : Int, 0 ≤ x → x ≤ σ 1 0 → 1 ≤ σ 2 x.toNat ∧ σ 2 x.toNat ≤ σ 1 1) (q w d : Int) (hq : 0 ≤ q ∧ q ≤ σ 1 0) (hw : w = 1 ∨ w = -1) (hd : 1 ≤ d ∧ d ≤ 400) (hp : 0 ≤ q - w * d ∧ q - w * d ≤ σ 1 0) (Q : Option sw_Vl → sw_S → Prop) (hQ : ∀ (τ : sw_S) (n : Nat), sw_fk σ τ → sw_gs τ → sw_fn τ → (n : Int) ≤ 400 → sw_R (σ 2) (σ 1 0) (σ 1 1) (σ 1 2) q w n d 0 → (∀ m : Nat, m < n → ¬ sw_R (σ 2) (σ 1 0) (σ 1 1) (σ 1 2) q w m d 0) → τ 3 2 = q → τ 3 3 = w → d ≤ τ 3 4 → Q (some (.inl (n : Int))) τ) (p0 : Int) : ∀ (n : Nat) (τ : sw_S), sw_fk σ τ → sw_gs τ → τ 3 2 = q → τ 3 3 = w → (0 ≤ τ 3 4 ∧ τ 3 4 ≤ 400) → sw_fn τ → (401 - τ 3 4).toNat < n → sw_E sw_ly sw_rho M_X1_ticksBetween 51 [(3, .inl d), (0, .inr (.inr 3)), (1, .inl p0), (2, .inl q)] [] τ Q := by
  intro n
  induction n with
  | zero =>
    intro τ hk hτ t2 t3 t4 hf hn
    omega
  | succ n ih =>
    intro τ hk hτ t2 t3 t4 hf hn
    refine sw_blk k_X1_ticksBetween 3 56 [(3, .inl d), (0, .inr (.inr 3)), (1, .inl p0), (2, .inl q)] [.inl d, .inl (τ 3 4)] τ rfl ?_
    refine sw_icmp_ge k_X1_ticksBetween rfl (by omega) (by omega) 80 59 (by decide) rfl (fun c1 => ?_) (fun c1 => ?_)
    · refine sw_blk k_X1_ticksBetween 5 88 [(3, .inl d), (0, .inr (.inr 3)), (1, .inl p0), (2, .inl q)] [.inl (d * 21), .inr (.inr 4)] τ rfl ?_
      refine sw_iald k_X1_ticksBetween rfl (i := 4) (n := 8421) rfl (by decide) (by omega) (by omega) 89 rfl ?_
      refine sw_blk k_X1_ticksBetween 0 89 [(3, .inl d), (0, .inr (.inr 3)), (1, .inl p0), (2, .inl q)] [.inl (τ 4 ((d * 21).toNat))] τ rfl ?_
      refine sw_ireturn k_X1_ticksBetween rfl rfl ?_
      rcases hf with hf | ⟨f1, f2, f3, f4, f5⟩
      · omega
      have g1 : τ 1 = σ 1 := funext fun j => sw_fk_1 hk j
      have g2 : τ 2 = σ 2 := sw_fk_2 hk
      have hx := f5 d 0 (by omega) (by omega) (by omega) (by rw [g1]; omega)
      rw [Int.add_zero, g1, g2, t2, t3] at hx
      have h1 := sw_R_one (lim := σ 2) (V := σ 1 1) (A := σ 1 2) hw hV.1 hA.1 (fun x a b => (hL x a b).1) hq d.toNat 0 (by omega) (by omega) (by rw [show ((d.toNat : Nat) : Int) = d by omega]; exact hp)
      rw [show ((d.toNat : Nat) : Int) = d by omega] at h1
      rcases hx with ⟨-, hx⟩ | ⟨x1, x2, x3, x4⟩
      · exact absurd h1 (hx _)
      · have := hQ τ (τ 4 (d * 21).toNat).toNat hk hτ (Or.inr ⟨f1, f2, f3, f4, f5⟩) (by omega) x3 (fun m hm => x4 m (by omega)) t2 t3 (by omega)
        rw [show (((τ 4 (d * 21).toNat).toNat : Nat) : Int) = τ 4 (d * 21).toNat by omega] at this
        exact this
    · rcases hf with hf | ⟨f1, f2, f3, f4, f5⟩
      · omega
      have hp2 : 0 ≤ q - w * (τ 3 4 + 1) ∧ q - w * (τ 3 4 + 1) ≤ σ 1 0 := by rcases hw with rfl | rfl <;> omega
      have h1g : sw_gs (sw_u τ 3 4 (τ 3 4 + 1)) := sw_gs_u hτ _ _ (by omega)
      have g1 : (sw_u τ 3 4 (τ 3 4 + 1)) 1 = σ 1 := funext fun j => sw_fk_1 hk j
      have g2 : (sw_u τ 3 4 (τ 3 4 + 1)) 2 = σ 2 := funext fun j => hk 2 j (by decide) (fun z => absurd z (by decide))
      have hD1 : 10 ≤ (sw_u τ 3 4 (τ 3 4 + 1)) 1 0 ∧ (sw_u τ 3 4 (τ 3 4 + 1)) 1 0 ≤ 400 := by rw [g1]; exact hD
      have hV1 : 1 ≤ (sw_u τ 3 4 (τ 3 4 + 1)) 1 1 ∧ (sw_u τ 3 4 (τ 3 4 + 1)) 1 1 ≤ 20 := by rw [g1]; exact hV
      have hA1 : 1 ≤ (sw_u τ 3 4 (τ 3 4 + 1)) 1 2 ∧ (sw_u τ 3 4 (τ 3 4 + 1)) 1 2 ≤ 5 := by rw [g1]; exact hA
      have hL1 : ∀ x : Int, 0 ≤ x → x ≤ (sw_u τ 3 4 (τ 3 4 + 1)) 1 0 → 1 ≤ (sw_u τ 3 4 (τ 3 4 + 1)) 2 x.toNat ∧ (sw_u τ 3 4 (τ 3 4 + 1)) 2 x.toNat ≤ (sw_u τ 3 4 (τ 3 4 + 1)) 1 1 := by rw [g1, g2]; exact hL
      have hw1 : (sw_u τ 3 4 (τ 3 4 + 1)) 3 3 = 1 ∨ (sw_u τ 3 4 (τ 3 4 + 1)) 3 3 = -1 := by rw [show (sw_u τ 3 4 (τ 3 4 + 1)) 3 3 = w from t3]; exact hw
      have hp1 : 0 ≤ (sw_u τ 3 4 (τ 3 4 + 1)) 3 2 - (sw_u τ 3 4 (τ 3 4 + 1)) 3 3 * (τ 3 4 + 1) ∧ (sw_u τ 3 4 (τ 3 4 + 1)) 3 2 - (sw_u τ 3 4 (τ 3 4 + 1)) 3 3 * (τ 3 4 + 1) ≤ (sw_u τ 3 4 (τ 3 4 + 1)) 1 0 := by rw [g1, show (sw_u τ 3 4 (τ 3 4 + 1)) 3 3 = w from t3, show (sw_u τ 3 4 (τ 3 4 + 1)) 3 2 = q from t2]; exact hp2
      have hF1 : ∀ d' b' : Int, 0 ≤ d' → d' < τ 3 4 + 1 → 0 ≤ b' → b' ≤ (sw_u τ 3 4 (τ 3 4 + 1)) 1 1 → sw_F (sw_R ((sw_u τ 3 4 (τ 3 4 + 1)) 2) ((sw_u τ 3 4 (τ 3 4 + 1)) 1 0) ((sw_u τ 3 4 (τ 3 4 + 1)) 1 1) ((sw_u τ 3 4 (τ 3 4 + 1)) 1 2) ((sw_u τ 3 4 (τ 3 4 + 1)) 3 2) ((sw_u τ 3 4 (τ 3 4 + 1)) 3 3)) d' b' ((sw_u τ 3 4 (τ 3 4 + 1)) 4 (d' * 21 + b').toNat) := fun d' b' a1 a2 a3 a4 => f5 d' b' a1 (by omega) a3 a4
      refine sw_blk k_X1_ticksBetween 9 74 [(3, .inl d), (0, .inr (.inr 3)), (1, .inl p0), (2, .inl q)] [.inl ((τ 3 4) + 1), .inr (.inr 3)] (sw_u τ 3 4 ((τ 3 4) + 1)) rfl ?_
      refine sw_callV k_X1_ticksBetween rfl cV_X1_fillRow ml_X1_45 ⟨by decide, by decide⟩ 3 rfl rfl [.inl ((τ 3 4) + 1)] [] rfl rfl (Nat.le_of_ble_eq_true rfl) 77 rfl (sp_fillRow (sw_u τ 3 4 ((τ 3 4) + 1)) h1g hD1 hV1 hA1 hL1 hw1 (τ 3 4 + 1) (by omega) hp1 hF1) (fun r2 σ3 hq4 => ?_)
      obtain ⟨rfl, fr1, fr2, fr3⟩ := hq4
      refine sw_blk k_X1_ticksBetween 1 51 [(3, .inl d), (0, .inr (.inr 3)), (1, .inl p0), (2, .inl q)] [] σ3 rfl ?_
      have e4 : σ3 3 4 = τ 3 4 + 1 := fr1 3 4 (by decide)
      have k1 : sw_fk σ σ3 := fun i j a1 a2 => by rw [fr1 i j a1, sw_u_ne _ _ (fun y => (a2 y.1).2.2 y.2)]; exact hk i j a1 a2
      have f1 : σ3 1 = σ 1 := funext fun j => sw_fk_1 k1 j
      have f2 : σ3 2 = σ 2 := sw_fk_2 k1
      have g1 : (sw_u τ 3 4 (τ 3 4 + 1)) 1 = σ 1 := funext fun j => sw_fk_1 hk j
      have g2 : (sw_u τ 3 4 (τ 3 4 + 1)) 2 = σ 2 := funext fun j => hk 2 j (by decide) (fun z => absurd z (by decide))
      have s2 : σ3 3 2 = q := (fr1 3 2 (by decide)).trans t2
      have s3 : σ3 3 3 = w := (fr1 3 3 (by decide)).trans t3
      refine ih σ3 k1 fr2 s2 s3 (by omega) (Or.inr ⟨by rw [s2, f1]; exact hq, by rw [s3]; exact hw, by omega, by rw [s2, s3, e4, f1]; exact hp2, fun d' b' a1 a2 a3 a4 => ?_⟩) (by omega)
      have := fr3 d' b' a1 (by omega) a3 (by rw [g1]; rw [f1] at a4; exact a4)
      rw [f2, f1, s2, s3]
      rw [g2, g1] at this
      rw [show (sw_u τ 3 4 (τ 3 4 + 1)) 3 2 = q from t2, show (sw_u τ 3 4 (τ 3 4 + 1)) 3 3 = w from t3] at this
      exact this
theorem sp_ticksBetween (σ : sw_S) (hσ : sw_gs σ) (hD : 10 ≤ σ 1 0 ∧ σ 1 0 ≤ 400) (hV : 1 ≤ σ 1 1 ∧ σ 1 1 ≤ 20) (hA : 1 ≤ σ 1 2 ∧ σ 1 2 ≤ 5) (hL : ∀ x : Int, 0 ≤ x → x ≤ σ 1 0 → 1 ≤ σ 2 x.toNat ∧ σ 2 x.toNat ≤ σ 1 1) (p q : Int) (hp : 0 ≤ p ∧ p ≤ σ 1 0) (hq : 0 ≤ q ∧ q ≤ σ 1 0) (hf : sw_fn σ) : sw_Con sw_ly sw_rho M_X1_ticksBetween [.inr (.inr 3), .inl p, .inl q] σ (fun r σ' => sw_fk σ σ' ∧ sw_gs σ' ∧ sw_fn σ' ∧ ∃ (n : Nat), r = some (.inl (n : Int)) ∧ (n : Int) ≤ 400 ∧ sw_R (σ 2) (σ 1 0) (σ 1 1) (σ 1 2) q (if p < q then 1 else -1) n (sw_abs (q - p)) 0 ∧ (∀ m : Nat, m < n → ¬ sw_R (σ 2) (σ 1 0) (σ 1 1) (σ 1 2) q (if p < q then 1 else -1) m (sw_abs (q - p)) 0) ∧ (p ≠ q → σ' 3 2 = q ∧ σ' 3 3 = (if p < q then 1 else -1) ∧ sw_abs (q - p) ≤ σ' 3 4)) := by
  refine sw_con (by decide) (Nat.le_of_ble_eq_true rfl) ?_
  refine sw_blk k_X1_ticksBetween 2 2 [(0, .inr (.inr 3)), (1, .inl p), (2, .inl q)] [.inl q, .inl p] σ rfl ?_
  refine sw_icmp_eq k_X1_ticksBetween rfl (by omega) (by omega) 27 5 (by decide) rfl (fun c1 => ?_) (fun c1 => ?_)
  · refine sw_blk k_X1_ticksBetween 1 28 [(0, .inr (.inr 3)), (1, .inl p), (2, .inl q)] [.inl 0] σ rfl ?_
    refine sw_ireturn k_X1_ticksBetween rfl rfl ?_
    have epq : p = q := by omega
    subst epq
    exact ⟨sw_fk_rf σ, hσ, hf, 0, rfl, by decide, ⟨by unfold sw_abs; omega, by omega⟩, fun m hm => absurd hm (Nat.not_lt_zero m), fun z => absurd rfl z⟩
  · refine sw_blk k_X1_ticksBetween 3 10 [(0, .inr (.inr 3)), (1, .inl p), (2, .inl q)] [.inl p, .inr (.inr 1)] σ rfl ?_
    refine sw_callV k_X1_ticksBetween rfl cV_X3_has ml_X1_26 ⟨by decide, by decide⟩ 1 rfl rfl [.inl p] [] rfl rfl (Nat.le_of_ble_eq_true rfl) 13 rfl (sp_has σ p (by omega) (hσ 1 0)) (fun r3 σ4 hq5 => ?_)
    obtain ⟨rfl, ⟨p2, rfl⟩ | ⟨p2, rfl⟩⟩ := hq5
    · refine sw_blk k_X1_ticksBetween 0 13 [(0, .inr (.inr 3)), (1, .inl p), (2, .inl q)] [.inl 1] σ rfl ?_
      refine sw_if_eq k_X1_ticksBetween rfl (by decide) 27 16 (by decide) rfl (fun c => absurd c (by decide)) (fun _ => ?_)
      refine sw_blk k_X1_ticksBetween 3 21 [(0, .inr (.inr 3)), (1, .inl p), (2, .inl q)] [.inl q, .inr (.inr 1)] σ rfl ?_
      refine sw_callV k_X1_ticksBetween rfl cV_X3_has ml_X1_26 ⟨by decide, by decide⟩ 1 rfl rfl [.inl q] [] rfl rfl (Nat.le_of_ble_eq_true rfl) 24 rfl (sp_has σ q (by omega) (hσ 1 0)) (fun r7 σ8 hq9 => ?_)
      obtain ⟨rfl, ⟨p6, rfl⟩ | ⟨p6, rfl⟩⟩ := hq9
      · refine sw_blk k_X1_ticksBetween 0 24 [(0, .inr (.inr 3)), (1, .inl p), (2, .inl q)] [.inl 1] σ rfl ?_
        refine sw_if_ne k_X1_ticksBetween rfl (by decide) 29 27 (by decide) rfl (fun _ => ?_) (fun c => absurd c (by decide))
        refine sw_blk k_X1_ticksBetween 4 33 [(0, .inr (.inr 3)), (1, .inl p), (2, .inl q)] [.inl q, .inl p, .inl q, .inr (.inr 3)] σ rfl ?_
        refine sw_icmp_ge k_X1_ticksBetween rfl (by omega) (by omega) 40 36 (by decide) rfl (fun c10 => ?_) (fun c10 => ?_)
        · refine sw_blk k_X1_ticksBetween 1 41 [(0, .inr (.inr 3)), (1, .inl p), (2, .inl q)] [.inl (-1), .inl q, .inr (.inr 3)] σ rfl ?_
          refine sw_callV k_X1_ticksBetween rfl cV_X1_aimAt ml_X1_32 ⟨by decide, by decide⟩ 3 rfl rfl [.inl q, .inl (-1)] [] rfl rfl (Nat.le_of_ble_eq_true rfl) 44 rfl (sp_aimAt σ hσ hD hV hA hL q (-1) hq (by decide) hf) (fun r11 σ12 hq13 => ?_)
          obtain ⟨rfl, am1, am2, am3, am4, am5⟩ := hq13
          refine sw_blk k_X1_ticksBetween 3 47 [(0, .inr (.inr 3)), (1, .inl p), (2, .inl q)] [.inl (q - p)] σ12 rfl ?_
          refine sw_callS k_X1_ticksBetween rfl cS_J9_abs_0f7a4 ml_X1_36 ⟨by decide, by decide⟩ [.inl (q - p)] [] rfl rfl (Nat.le_of_ble_eq_true rfl) 50 rfl (sp_abs σ12 (q - p) (by omega)) (fun r14 σ15 hq16 => ?_)
          obtain ⟨rfl, rfl⟩ := hq16
          refine sw_blk k_X1_ticksBetween 1 51 [(3, .inl (sw_abs (q - p))), (0, .inr (.inr 3)), (1, .inl p), (2, .inl q)] [] σ12 rfl ?_
          have ab : sw_abs (q - p) = p - q := by unfold sw_abs; omega
          have iw : (if p < q then (1 : Int) else -1) = (-1) := if_neg (by omega)
          rw [iw]
          refine lp_tb σ hσ hD hV hA hL q (-1) (sw_abs (q - p)) hq (by decide) (by omega) (by omega) _ (fun τ n a1 a2 a3 a4 a5 a6 a7 a8 a9 => ⟨a1, a2, a3, n, rfl, a4, a5, a6, fun _ => ⟨a7, a8, a9⟩⟩) p 402 σ12 am1 am2 am3 am4 ?_ am5 ?_
          · rcases am5 with z | ⟨z1, z2, z3, z4, z5⟩
            · omega
            · rw [am3, am4, sw_fk_1 am1 0] at z4; omega
          · rcases am5 with z | ⟨z1, z2, z3, z4, z5⟩
            · omega
            · omega
        · refine sw_blk k_X1_ticksBetween 2 41 [(0, .inr (.inr 3)), (1, .inl p), (2, .inl q)] [.inl 1, .inl q, .inr (.inr 3)] σ rfl ?_
          refine sw_callV k_X1_ticksBetween rfl cV_X1_aimAt ml_X1_32 ⟨by decide, by decide⟩ 3 rfl rfl [.inl q, .inl 1] [] rfl rfl (Nat.le_of_ble_eq_true rfl) 44 rfl (sp_aimAt σ hσ hD hV hA hL q 1 hq (by decide) hf) (fun r17 σ18 hq19 => ?_)
          obtain ⟨rfl, am1, am2, am3, am4, am5⟩ := hq19
          refine sw_blk k_X1_ticksBetween 3 47 [(0, .inr (.inr 3)), (1, .inl p), (2, .inl q)] [.inl (q - p)] σ18 rfl ?_
          refine sw_callS k_X1_ticksBetween rfl cS_J9_abs_0f7a4 ml_X1_36 ⟨by decide, by decide⟩ [.inl (q - p)] [] rfl rfl (Nat.le_of_ble_eq_true rfl) 50 rfl (sp_abs σ18 (q - p) (by omega)) (fun r20 σ21 hq22 => ?_)
          obtain ⟨rfl, rfl⟩ := hq22
          refine sw_blk k_X1_ticksBetween 1 51 [(3, .inl (sw_abs (q - p))), (0, .inr (.inr 3)), (1, .inl p), (2, .inl q)] [] σ18 rfl ?_
          have ab : sw_abs (q - p) = q - p := by unfold sw_abs; omega
          have iw : (if p < q then (1 : Int) else -1) = 1 := if_pos (by omega)
          rw [iw]
          refine lp_tb σ hσ hD hV hA hL q 1 (sw_abs (q - p)) hq (by decide) (by omega) (by omega) _ (fun τ n a1 a2 a3 a4 a5 a6 a7 a8 a9 => ⟨a1, a2, a3, n, rfl, a4, a5, a6, fun _ => ⟨a7, a8, a9⟩⟩) p 402 σ18 am1 am2 am3 am4 ?_ am5 ?_
          · rcases am5 with z | ⟨z1, z2, z3, z4, z5⟩
            · omega
            · rw [am3, am4, sw_fk_1 am1 0] at z4; omega
          · rcases am5 with z | ⟨z1, z2, z3, z4, z5⟩
            · omega
            · omega
      · exact absurd (by omega) p6
    · exact absurd (by omega) p2
