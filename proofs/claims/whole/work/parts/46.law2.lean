/-- 'script[i + 2] != 0' -/
theorem lr_bool {p : Program} {l : Launch} {e : Env} {s : State} {m : MethodId} {below : List Frame} {meth : Method} {c : Code} {b L : Nat} {xs : Nat → Int32} {D : va_G} {c3 : sw_C3} {ad : Nat → Nat} {i : Nat} {st : List sw_Vl} {σ : sw_S} (X : lw_X p s m meth c b L xs D c3 ad) (pc : Nat) (x : Int32) {v : Int} (hv : (x = 0 ∧ v = 0) ∨ (¬ x = 0 ∧ v = 1)) (d0 : decode code pc = .ok (.ifCond .eq 7, 3)) (d1 : decode code (pc + 3) = .ok (.iconst 1, 1)) (d2 : decode code (pc + 4) = .ok (.goto 4, 3)) (d3 : decode code (pc + 7) = .ok (.iconst 0, 1)) (kk : lw_E p l e s m below meth c b D c3 ad (pc + 8) i (.inl v :: st) σ) : lw_E p l e s m below meth c b D c3 ad pc i (.inl x.toInt :: st) σ := by
  intro H locs ls hP hS hl
  have h9 := kk H locs ls hP hS hl
  show W p l e room_1 s m #[Value.ref b] below meth c H locs 600000 7302250 (lw_Z below #[Value.ref b] s) (F0 m pc ls (.int (Int32.ofInt x.toInt) :: st.map (sw_tv ad)))
  rw [sw_i32]
  refine lv_if_eq (tgt := pc + 7) X.1.1 X.1.2.1 d0 (by omega) (fun z => ?_) (fun z => ?_)
  · refine lv_iconst (v := 0) X.1.1 X.1.2.1 d3 rfl ?_
    have e : v = 0 := by
      rcases hv with h | h
      · exact h.2
      · exact absurd z h.1
    subst e
    exact h9
  · refine lv_iconst (v := 1) X.1.1 X.1.2.1 d1 rfl ?_
    refine lv_goto (tgt := pc + 8) X.1.1 X.1.2.1 d2 (by omega) ?_
    have e : v = 1 := by
      rcases hv with h | h
      · exact absurd h.1 z
      · exact h.2
    subst e
    exact h9
set_option maxRecDepth 20000 in
theorem lc_0 {p : Program} {l : Launch} {e : Env} {s : State} {m : MethodId} {below : List Frame} {meth : Method} {c : Code} {b L : Nat} {xs : Nat → Int32} {D : va_G} {c3 : sw_C3} {ad : Nat → Nat} {i : Nat} {σ : sw_S} {N : Int} (X : lw_X p s m meth c b L xs D c3 ad) (hi : i + 6 ≤ L) (hN : 0 ≤ N ∧ N ≤ 900000) (J : sw_J N σ σ) (kk : ∀ σ2, sw_J (N + 400) σ2 σ2 → lw_E p l e s m below meth c b D c3 ad 1367 i [] σ2) : lw_E p l e s m below meth c b D c3 ad 192 i [] σ := by
  obtain ⟨Q1, h1, k1⟩ := st_shaft N hN σ J ((xs (i + 1)).toInt) ((xs (i + 2)).toInt) ((xs (i + 3)).toInt) (sw_i32g _) (sw_i32g _) (sw_i32g _)
  refine lr_x X (show decode code 192 = .ok (.aload_n 1, 1) by decide +kernel) ?_
  refine lr_arg X hi 1 1 rfl (by decide) (show decode code 193 = .ok (.aload_n 0, 1) by decide +kernel) (show decode code 194 = .ok (.iload_n 3, 1) by decide +kernel) (show decode code 195 = .ok (.iconst 1, 1) by decide +kernel) (show decode code 196 = .ok (.iadd, 1) by decide +kernel) (show decode code 197 = .ok (.iaload, 1) by decide +kernel) ?_
  refine lr_arg X hi 2 2 rfl (by decide) (show decode code 198 = .ok (.aload_n 0, 1) by decide +kernel) (show decode code 199 = .ok (.iload_n 3, 1) by decide +kernel) (show decode code 200 = .ok (.iconst 2, 1) by decide +kernel) (show decode code 201 = .ok (.iadd, 1) by decide +kernel) (show decode code 202 = .ok (.iaload, 1) by decide +kernel) ?_
  refine lr_arg X hi 3 3 rfl (by decide) (show decode code 203 = .ok (.aload_n 0, 1) by decide +kernel) (show decode code 204 = .ok (.iload_n 3, 1) by decide +kernel) (show decode code 205 = .ok (.iconst 3, 1) by decide +kernel) (show decode code 206 = .ok (.iadd, 1) by decide +kernel) (show decode code 207 = .ok (.iaload, 1) by decide +kernel) ?_
  refine lr_call X cV_X7_shaft ml_L_13 ⟨by decide, by decide⟩ (o := 0) rfl rfl [.inl ((xs (i + 1)).toInt), .inl ((xs (i + 2)).toInt), .inl ((xs (i + 3)).toInt)] [] rfl (by decide) h1 rfl (show decode code 208 = .ok (.invokevirtual 13, 3) by decide +kernel) (fun r1 σ1 q1 => ?_)
  obtain ⟨Q2, h2, k2⟩ := k1 r1 σ1 q1
  refine lr_m X (show decode code 211 = .ok (.aload_n 2, 1) by decide +kernel) ?_
  refine lr_arg X hi 1 1 rfl (by decide) (show decode code 212 = .ok (.aload_n 0, 1) by decide +kernel) (show decode code 213 = .ok (.iload_n 3, 1) by decide +kernel) (show decode code 214 = .ok (.iconst 1, 1) by decide +kernel) (show decode code 215 = .ok (.iadd, 1) by decide +kernel) (show decode code 216 = .ok (.iaload, 1) by decide +kernel) ?_
  refine lr_arg X hi 2 2 rfl (by decide) (show decode code 217 = .ok (.aload_n 0, 1) by decide +kernel) (show decode code 218 = .ok (.iload_n 3, 1) by decide +kernel) (show decode code 219 = .ok (.iconst 2, 1) by decide +kernel) (show decode code 220 = .ok (.iadd, 1) by decide +kernel) (show decode code 221 = .ok (.iaload, 1) by decide +kernel) ?_
  refine lr_arg X hi 3 3 rfl (by decide) (show decode code 222 = .ok (.aload_n 0, 1) by decide +kernel) (show decode code 223 = .ok (.iload_n 3, 1) by decide +kernel) (show decode code 224 = .ok (.iconst 3, 1) by decide +kernel) (show decode code 225 = .ok (.iadd, 1) by decide +kernel) (show decode code 226 = .ok (.iaload, 1) by decide +kernel) ?_
  refine lr_call X cV_X8_shaft ml_L_17 ⟨by decide, by decide⟩ (o := 26) rfl rfl [.inl ((xs (i + 1)).toInt), .inl ((xs (i + 2)).toInt), .inl ((xs (i + 3)).toInt)] r1.toList rfl (by cases r1 <;> simp) h2 (by simp) (show decode code 227 = .ok (.invokevirtual 17, 3) by decide +kernel) (fun r2 σ2 q2 => ?_)
  obtain ⟨x, e1, e2, J2⟩ := k2 r2 σ2 q2
  subst e1
  subst e2
  exact lr_eq X 1367 (by decide) (show decode code 230 = .ok (.if_icmp .eq 1137, 3) by decide +kernel) (kk σ2 J2)
set_option maxRecDepth 20000 in
theorem lc_1 {p : Program} {l : Launch} {e : Env} {s : State} {m : MethodId} {below : List Frame} {meth : Method} {c : Code} {b L : Nat} {xs : Nat → Int32} {D : va_G} {c3 : sw_C3} {ad : Nat → Nat} {i : Nat} {σ : sw_S} {N : Int} (X : lw_X p s m meth c b L xs D c3 ad) (hi : i + 6 ≤ L) (hN : 0 ≤ N ∧ N ≤ 900000) (J : sw_J N σ σ) (kk : ∀ σ2, sw_J (N + 400) σ2 σ2 → lw_E p l e s m below meth c b D c3 ad 1367 i [] σ2) : lw_E p l e s m below meth c b D c3 ad 235 i [] σ := by
  obtain ⟨Q1, h1, k1⟩ := st_zone N hN σ J ((xs (i + 1)).toInt) ((xs (i + 2)).toInt) ((xs (i + 3)).toInt) (sw_i32g _) (sw_i32g _) (sw_i32g _)
  refine lr_x X (show decode code 235 = .ok (.aload_n 1, 1) by decide +kernel) ?_
  refine lr_arg X hi 1 1 rfl (by decide) (show decode code 236 = .ok (.aload_n 0, 1) by decide +kernel) (show decode code 237 = .ok (.iload_n 3, 1) by decide +kernel) (show decode code 238 = .ok (.iconst 1, 1) by decide +kernel) (show decode code 239 = .ok (.iadd, 1) by decide +kernel) (show decode code 240 = .ok (.iaload, 1) by decide +kernel) ?_
  refine lr_arg X hi 2 2 rfl (by decide) (show decode code 241 = .ok (.aload_n 0, 1) by decide +kernel) (show decode code 242 = .ok (.iload_n 3, 1) by decide +kernel) (show decode code 243 = .ok (.iconst 2, 1) by decide +kernel) (show decode code 244 = .ok (.iadd, 1) by decide +kernel) (show decode code 245 = .ok (.iaload, 1) by decide +kernel) ?_
  refine lr_arg X hi 3 3 rfl (by decide) (show decode code 246 = .ok (.aload_n 0, 1) by decide +kernel) (show decode code 247 = .ok (.iload_n 3, 1) by decide +kernel) (show decode code 248 = .ok (.iconst 3, 1) by decide +kernel) (show decode code 249 = .ok (.iadd, 1) by decide +kernel) (show decode code 250 = .ok (.iaload, 1) by decide +kernel) ?_
  refine lr_call X cV_X7_zone ml_L_18 ⟨by decide, by decide⟩ (o := 0) rfl rfl [.inl ((xs (i + 1)).toInt), .inl ((xs (i + 2)).toInt), .inl ((xs (i + 3)).toInt)] [] rfl (by decide) h1 rfl (show decode code 251 = .ok (.invokevirtual 18, 3) by decide +kernel) (fun r1 σ1 q1 => ?_)
  obtain ⟨Q2, h2, k2⟩ := k1 r1 σ1 q1
  refine lr_m X (show decode code 254 = .ok (.aload_n 2, 1) by decide +kernel) ?_
  refine lr_arg X hi 1 1 rfl (by decide) (show decode code 255 = .ok (.aload_n 0, 1) by decide +kernel) (show decode code 256 = .ok (.iload_n 3, 1) by decide +kernel) (show decode code 257 = .ok (.iconst 1, 1) by decide +kernel) (show decode code 258 = .ok (.iadd, 1) by decide +kernel) (show decode code 259 = .ok (.iaload, 1) by decide +kernel) ?_
  refine lr_arg X hi 2 2 rfl (by decide) (show decode code 260 = .ok (.aload_n 0, 1) by decide +kernel) (show decode code 261 = .ok (.iload_n 3, 1) by decide +kernel) (show decode code 262 = .ok (.iconst 2, 1) by decide +kernel) (show decode code 263 = .ok (.iadd, 1) by decide +kernel) (show decode code 264 = .ok (.iaload, 1) by decide +kernel) ?_
  refine lr_arg X hi 3 3 rfl (by decide) (show decode code 265 = .ok (.aload_n 0, 1) by decide +kernel) (show decode code 266 = .ok (.iload_n 3, 1) by decide +kernel) (show decode code 267 = .ok (.iconst 3, 1) by decide +kernel) (show decode code 268 = .ok (.iadd, 1) by decide +kernel) (show decode code 269 = .ok (.iaload, 1) by decide +kernel) ?_
  refine lr_call X cV_X8_zone ml_L_21 ⟨by decide, by decide⟩ (o := 26) rfl rfl [.inl ((xs (i + 1)).toInt), .inl ((xs (i + 2)).toInt), .inl ((xs (i + 3)).toInt)] r1.toList rfl (by cases r1 <;> simp) h2 (by simp) (show decode code 270 = .ok (.invokevirtual 21, 3) by decide +kernel) (fun r2 σ2 q2 => ?_)
  obtain ⟨x, e1, e2, J2⟩ := k2 r2 σ2 q2
  subst e1
  subst e2
  exact lr_eq X 1367 (by decide) (show decode code 273 = .ok (.if_icmp .eq 1094, 3) by decide +kernel) (kk σ2 J2)
set_option maxRecDepth 20000 in
theorem lc_2 {p : Program} {l : Launch} {e : Env} {s : State} {m : MethodId} {below : List Frame} {meth : Method} {c : Code} {b L : Nat} {xs : Nat → Int32} {D : va_G} {c3 : sw_C3} {ad : Nat → Nat} {i : Nat} {σ : sw_S} {N : Int} (X : lw_X p s m meth c b L xs D c3 ad) (hi : i + 6 ≤ L) (hN : 0 ≤ N ∧ N ≤ 900000) (J : sw_J N σ σ) (kk : ∀ σ2, sw_J (N + 400) σ2 σ2 → lw_E p l e s m below meth c b D c3 ad 1367 i [] σ2) : lw_E p l e s m below meth c b D c3 ad 278 i [] σ := by
  obtain ⟨Q1, h1, k1⟩ := st_stop N hN σ J ((xs (i + 1)).toInt) ((xs (i + 2)).toInt) (sw_i32g _) (sw_i32g _)
  refine lr_x X (show decode code 278 = .ok (.aload_n 1, 1) by decide +kernel) ?_
  refine lr_arg X hi 1 1 rfl (by decide) (show decode code 279 = .ok (.aload_n 0, 1) by decide +kernel) (show decode code 280 = .ok (.iload_n 3, 1) by decide +kernel) (show decode code 281 = .ok (.iconst 1, 1) by decide +kernel) (show decode code 282 = .ok (.iadd, 1) by decide +kernel) (show decode code 283 = .ok (.iaload, 1) by decide +kernel) ?_
  refine lr_arg X hi 2 2 rfl (by decide) (show decode code 284 = .ok (.aload_n 0, 1) by decide +kernel) (show decode code 285 = .ok (.iload_n 3, 1) by decide +kernel) (show decode code 286 = .ok (.iconst 2, 1) by decide +kernel) (show decode code 287 = .ok (.iadd, 1) by decide +kernel) (show decode code 288 = .ok (.iaload, 1) by decide +kernel) ?_
  refine lr_call X cV_X7_stop ml_L_22 ⟨by decide, by decide⟩ (o := 0) rfl rfl [.inl ((xs (i + 1)).toInt), .inl ((xs (i + 2)).toInt)] [] rfl (by decide) h1 rfl (show decode code 289 = .ok (.invokevirtual 22, 3) by decide +kernel) (fun r1 σ1 q1 => ?_)
  obtain ⟨Q2, h2, k2⟩ := k1 r1 σ1 q1
  refine lr_m X (show decode code 292 = .ok (.aload_n 2, 1) by decide +kernel) ?_
  refine lr_arg X hi 1 1 rfl (by decide) (show decode code 293 = .ok (.aload_n 0, 1) by decide +kernel) (show decode code 294 = .ok (.iload_n 3, 1) by decide +kernel) (show decode code 295 = .ok (.iconst 1, 1) by decide +kernel) (show decode code 296 = .ok (.iadd, 1) by decide +kernel) (show decode code 297 = .ok (.iaload, 1) by decide +kernel) ?_
  refine lr_arg X hi 2 2 rfl (by decide) (show decode code 298 = .ok (.aload_n 0, 1) by decide +kernel) (show decode code 299 = .ok (.iload_n 3, 1) by decide +kernel) (show decode code 300 = .ok (.iconst 2, 1) by decide +kernel) (show decode code 301 = .ok (.iadd, 1) by decide +kernel) (show decode code 302 = .ok (.iaload, 1) by decide +kernel) ?_
  refine lr_call X cV_X8_stop ml_L_26 ⟨by decide, by decide⟩ (o := 26) rfl rfl [.inl ((xs (i + 1)).toInt), .inl ((xs (i + 2)).toInt)] r1.toList rfl (by cases r1 <;> simp) h2 (by simp) (show decode code 303 = .ok (.invokevirtual 26, 3) by decide +kernel) (fun r2 σ2 q2 => ?_)
  obtain ⟨x, e1, e2, J2⟩ := k2 r2 σ2 q2
  subst e1
  subst e2
  exact lr_eq X 1367 (by decide) (show decode code 306 = .ok (.if_icmp .eq 1061, 3) by decide +kernel) (kk σ2 J2)
set_option maxRecDepth 20000 in
theorem lc_3 {p : Program} {l : Launch} {e : Env} {s : State} {m : MethodId} {below : List Frame} {meth : Method} {c : Code} {b L : Nat} {xs : Nat → Int32} {D : va_G} {c3 : sw_C3} {ad : Nat → Nat} {i : Nat} {σ : sw_S} {N : Int} (X : lw_X p s m meth c b L xs D c3 ad) (hi : i + 6 ≤ L) (hN : 0 ≤ N ∧ N ≤ 900000) (J : sw_J N σ σ) (kk : ∀ σ2, sw_J (N + 400) σ2 σ2 → lw_E p l e s m below meth c b D c3 ad 1367 i [] σ2) : lw_E p l e s m below meth c b D c3 ad 311 i [] σ := by
  obtain ⟨Q1, h1, k1⟩ := st_most N hN σ J ((xs (i + 1)).toInt) ((xs (i + 2)).toInt) (sw_i32g _) (sw_i32g _)
  refine lr_x X (show decode code 311 = .ok (.aload_n 1, 1) by decide +kernel) ?_
  refine lr_arg X hi 1 1 rfl (by decide) (show decode code 312 = .ok (.aload_n 0, 1) by decide +kernel) (show decode code 313 = .ok (.iload_n 3, 1) by decide +kernel) (show decode code 314 = .ok (.iconst 1, 1) by decide +kernel) (show decode code 315 = .ok (.iadd, 1) by decide +kernel) (show decode code 316 = .ok (.iaload, 1) by decide +kernel) ?_
  refine lr_arg X hi 2 2 rfl (by decide) (show decode code 317 = .ok (.aload_n 0, 1) by decide +kernel) (show decode code 318 = .ok (.iload_n 3, 1) by decide +kernel) (show decode code 319 = .ok (.iconst 2, 1) by decide +kernel) (show decode code 320 = .ok (.iadd, 1) by decide +kernel) (show decode code 321 = .ok (.iaload, 1) by decide +kernel) ?_
  refine lr_call X cV_X7_most ml_L_27 ⟨by decide, by decide⟩ (o := 0) rfl rfl [.inl ((xs (i + 1)).toInt), .inl ((xs (i + 2)).toInt)] [] rfl (by decide) h1 rfl (show decode code 322 = .ok (.invokevirtual 27, 3) by decide +kernel) (fun r1 σ1 q1 => ?_)
  obtain ⟨Q2, h2, k2⟩ := k1 r1 σ1 q1
  refine lr_m X (show decode code 325 = .ok (.aload_n 2, 1) by decide +kernel) ?_
  refine lr_arg X hi 1 1 rfl (by decide) (show decode code 326 = .ok (.aload_n 0, 1) by decide +kernel) (show decode code 327 = .ok (.iload_n 3, 1) by decide +kernel) (show decode code 328 = .ok (.iconst 1, 1) by decide +kernel) (show decode code 329 = .ok (.iadd, 1) by decide +kernel) (show decode code 330 = .ok (.iaload, 1) by decide +kernel) ?_
  refine lr_arg X hi 2 2 rfl (by decide) (show decode code 331 = .ok (.aload_n 0, 1) by decide +kernel) (show decode code 332 = .ok (.iload_n 3, 1) by decide +kernel) (show decode code 333 = .ok (.iconst 2, 1) by decide +kernel) (show decode code 334 = .ok (.iadd, 1) by decide +kernel) (show decode code 335 = .ok (.iaload, 1) by decide +kernel) ?_
  refine lr_call X cV_X8_most ml_L_30 ⟨by decide, by decide⟩ (o := 26) rfl rfl [.inl ((xs (i + 1)).toInt), .inl ((xs (i + 2)).toInt)] r1.toList rfl (by cases r1 <;> simp) h2 (by simp) (show decode code 336 = .ok (.invokevirtual 30, 3) by decide +kernel) (fun r2 σ2 q2 => ?_)
  obtain ⟨x, e1, e2, J2⟩ := k2 r2 σ2 q2
  subst e1
  subst e2
  exact lr_eq X 1367 (by decide) (show decode code 339 = .ok (.if_icmp .eq 1028, 3) by decide +kernel) (kk σ2 J2)
set_option maxRecDepth 20000 in
theorem lc_4 {p : Program} {l : Launch} {e : Env} {s : State} {m : MethodId} {below : List Frame} {meth : Method} {c : Code} {b L : Nat} {xs : Nat → Int32} {D : va_G} {c3 : sw_C3} {ad : Nat → Nat} {i : Nat} {σ : sw_S} {N : Int} (X : lw_X p s m meth c b L xs D c3 ad) (hi : i + 6 ≤ L) (hN : 0 ≤ N ∧ N ≤ 900000) (J : sw_J N σ σ) (kk : ∀ σ2, sw_J (N + 400) σ2 σ2 → lw_E p l e s m below meth c b D c3 ad 1367 i [] σ2) : lw_E p l e s m below meth c b D c3 ad 344 i [] σ := by
  obtain ⟨Q1, h1, k1⟩ := st_ticks N hN σ J ((xs (i + 1)).toInt) (sw_i32g _)
  refine lr_x X (show decode code 344 = .ok (.aload_n 1, 1) by decide +kernel) ?_
  refine lr_arg X hi 1 1 rfl (by decide) (show decode code 345 = .ok (.aload_n 0, 1) by decide +kernel) (show decode code 346 = .ok (.iload_n 3, 1) by decide +kernel) (show decode code 347 = .ok (.iconst 1, 1) by decide +kernel) (show decode code 348 = .ok (.iadd, 1) by decide +kernel) (show decode code 349 = .ok (.iaload, 1) by decide +kernel) ?_
  refine lr_call X cV_X7_ticks ml_L_31 ⟨by decide, by decide⟩ (o := 0) rfl rfl [.inl ((xs (i + 1)).toInt)] [] rfl (by decide) h1 rfl (show decode code 350 = .ok (.invokevirtual 31, 3) by decide +kernel) (fun r1 σ1 q1 => ?_)
  obtain ⟨Q2, h2, k2⟩ := k1 r1 σ1 q1
  refine lr_m X (show decode code 353 = .ok (.aload_n 2, 1) by decide +kernel) ?_
  refine lr_arg X hi 1 1 rfl (by decide) (show decode code 354 = .ok (.aload_n 0, 1) by decide +kernel) (show decode code 355 = .ok (.iload_n 3, 1) by decide +kernel) (show decode code 356 = .ok (.iconst 1, 1) by decide +kernel) (show decode code 357 = .ok (.iadd, 1) by decide +kernel) (show decode code 358 = .ok (.iaload, 1) by decide +kernel) ?_
  refine lr_call X cV_X8_ticks ml_L_35 ⟨by decide, by decide⟩ (o := 26) rfl rfl [.inl ((xs (i + 1)).toInt)] r1.toList rfl (by cases r1 <;> simp) h2 (by simp) (show decode code 359 = .ok (.invokevirtual 35, 3) by decide +kernel) (fun r2 σ2 q2 => ?_)
  obtain ⟨x, e1, e2, J2⟩ := k2 r2 σ2 q2
  subst e1
  subst e2
  exact lr_eq X 1367 (by decide) (show decode code 362 = .ok (.if_icmp .eq 1005, 3) by decide +kernel) (kk σ2 J2)
set_option maxRecDepth 20000 in
theorem lc_5 {p : Program} {l : Launch} {e : Env} {s : State} {m : MethodId} {below : List Frame} {meth : Method} {c : Code} {b L : Nat} {xs : Nat → Int32} {D : va_G} {c3 : sw_C3} {ad : Nat → Nat} {i : Nat} {σ : sw_S} {N : Int} (X : lw_X p s m meth c b L xs D c3 ad) (hi : i + 6 ≤ L) (hN : 0 ≤ N ∧ N ≤ 900000) (J : sw_J N σ σ) (kk : ∀ σ2, sw_J (N + 400) σ2 σ2 → lw_E p l e s m below meth c b D c3 ad 1367 i [] σ2) : lw_E p l e s m below meth c b D c3 ad 367 i [] σ := by
  obtain ⟨Q1, h1, k1⟩ := st_speed N hN σ J ((xs (i + 1)).toInt) ((xs (i + 2)).toInt) (sw_i32g _) (sw_i32g _)
  refine lr_x X (show decode code 367 = .ok (.aload_n 1, 1) by decide +kernel) ?_
  refine lr_arg X hi 1 1 rfl (by decide) (show decode code 368 = .ok (.aload_n 0, 1) by decide +kernel) (show decode code 369 = .ok (.iload_n 3, 1) by decide +kernel) (show decode code 370 = .ok (.iconst 1, 1) by decide +kernel) (show decode code 371 = .ok (.iadd, 1) by decide +kernel) (show decode code 372 = .ok (.iaload, 1) by decide +kernel) ?_
  refine lr_arg X hi 2 2 rfl (by decide) (show decode code 373 = .ok (.aload_n 0, 1) by decide +kernel) (show decode code 374 = .ok (.iload_n 3, 1) by decide +kernel) (show decode code 375 = .ok (.iconst 2, 1) by decide +kernel) (show decode code 376 = .ok (.iadd, 1) by decide +kernel) (show decode code 377 = .ok (.iaload, 1) by decide +kernel) ?_
  refine lr_call X cV_X7_speed ml_L_36 ⟨by decide, by decide⟩ (o := 0) rfl rfl [.inl ((xs (i + 1)).toInt), .inl ((xs (i + 2)).toInt)] [] rfl (by decide) h1 rfl (show decode code 378 = .ok (.invokevirtual 36, 3) by decide +kernel) (fun r1 σ1 q1 => ?_)
  obtain ⟨Q2, h2, k2⟩ := k1 r1 σ1 q1
  refine lr_m X (show decode code 381 = .ok (.aload_n 2, 1) by decide +kernel) ?_
  refine lr_arg X hi 1 1 rfl (by decide) (show decode code 382 = .ok (.aload_n 0, 1) by decide +kernel) (show decode code 383 = .ok (.iload_n 3, 1) by decide +kernel) (show decode code 384 = .ok (.iconst 1, 1) by decide +kernel) (show decode code 385 = .ok (.iadd, 1) by decide +kernel) (show decode code 386 = .ok (.iaload, 1) by decide +kernel) ?_
  refine lr_arg X hi 2 2 rfl (by decide) (show decode code 387 = .ok (.aload_n 0, 1) by decide +kernel) (show decode code 388 = .ok (.iload_n 3, 1) by decide +kernel) (show decode code 389 = .ok (.iconst 2, 1) by decide +kernel) (show decode code 390 = .ok (.iadd, 1) by decide +kernel) (show decode code 391 = .ok (.iaload, 1) by decide +kernel) ?_
  refine lr_call X cV_X8_speed ml_L_39 ⟨by decide, by decide⟩ (o := 26) rfl rfl [.inl ((xs (i + 1)).toInt), .inl ((xs (i + 2)).toInt)] r1.toList rfl (by cases r1 <;> simp) h2 (by simp) (show decode code 392 = .ok (.invokevirtual 39, 3) by decide +kernel) (fun r2 σ2 q2 => ?_)
  obtain ⟨x, e1, e2, J2⟩ := k2 r2 σ2 q2
  subst e1
  subst e2
  exact lr_eq X 1367 (by decide) (show decode code 395 = .ok (.if_icmp .eq 972, 3) by decide +kernel) (kk σ2 J2)
set_option maxRecDepth 20000 in
theorem lc_6 {p : Program} {l : Launch} {e : Env} {s : State} {m : MethodId} {below : List Frame} {meth : Method} {c : Code} {b L : Nat} {xs : Nat → Int32} {D : va_G} {c3 : sw_C3} {ad : Nat → Nat} {i : Nat} {σ : sw_S} {N : Int} (X : lw_X p s m meth c b L xs D c3 ad) (hi : i + 6 ≤ L) (hN : 0 ≤ N ∧ N ≤ 900000) (J : sw_J N σ σ) (kk : ∀ σ2, sw_J (N + 400) σ2 σ2 → lw_E p l e s m below meth c b D c3 ad 1367 i [] σ2) : lw_E p l e s m below meth c b D c3 ad 400 i [] σ := by
  obtain ⟨Q1, h1, k1⟩ := st_ring N hN σ J ((xs (i + 1)).toInt) (sw_i32g _)
  refine lr_x X (show decode code 400 = .ok (.aload_n 1, 1) by decide +kernel) ?_
  refine lr_arg X hi 1 1 rfl (by decide) (show decode code 401 = .ok (.aload_n 0, 1) by decide +kernel) (show decode code 402 = .ok (.iload_n 3, 1) by decide +kernel) (show decode code 403 = .ok (.iconst 1, 1) by decide +kernel) (show decode code 404 = .ok (.iadd, 1) by decide +kernel) (show decode code 405 = .ok (.iaload, 1) by decide +kernel) ?_
  refine lr_call X cV_X7_ring ml_L_40 ⟨by decide, by decide⟩ (o := 0) rfl rfl [.inl ((xs (i + 1)).toInt)] [] rfl (by decide) h1 rfl (show decode code 406 = .ok (.invokevirtual 40, 3) by decide +kernel) (fun r1 σ1 q1 => ?_)
  obtain ⟨Q2, h2, k2⟩ := k1 r1 σ1 q1
  refine lr_m X (show decode code 409 = .ok (.aload_n 2, 1) by decide +kernel) ?_
  refine lr_arg X hi 1 1 rfl (by decide) (show decode code 410 = .ok (.aload_n 0, 1) by decide +kernel) (show decode code 411 = .ok (.iload_n 3, 1) by decide +kernel) (show decode code 412 = .ok (.iconst 1, 1) by decide +kernel) (show decode code 413 = .ok (.iadd, 1) by decide +kernel) (show decode code 414 = .ok (.iaload, 1) by decide +kernel) ?_
  refine lr_call X cV_X8_ring ml_L_43 ⟨by decide, by decide⟩ (o := 26) rfl rfl [.inl ((xs (i + 1)).toInt)] r1.toList rfl (by cases r1 <;> simp) h2 (by simp) (show decode code 415 = .ok (.invokevirtual 43, 3) by decide +kernel) (fun r2 σ2 q2 => ?_)
  obtain ⟨x, e1, e2, J2⟩ := k2 r2 σ2 q2
  subst e1
  subst e2
  exact lr_eq X 1367 (by decide) (show decode code 418 = .ok (.if_icmp .eq 949, 3) by decide +kernel) (kk σ2 J2)
set_option maxRecDepth 20000 in
theorem lc_7 {p : Program} {l : Launch} {e : Env} {s : State} {m : MethodId} {below : List Frame} {meth : Method} {c : Code} {b L : Nat} {xs : Nat → Int32} {D : va_G} {c3 : sw_C3} {ad : Nat → Nat} {i : Nat} {σ : sw_S} {N : Int} (X : lw_X p s m meth c b L xs D c3 ad) (hi : i + 6 ≤ L) (hN : 0 ≤ N ∧ N ≤ 900000) (J : sw_J N σ σ) (kk : ∀ σ2, sw_J (N + 400) σ2 σ2 → lw_E p l e s m below meth c b D c3 ad 1367 i [] σ2) : lw_E p l e s m below meth c b D c3 ad 423 i [] σ := by
  obtain ⟨v, hc, gv⟩ : ∃ v : Int, ((xs (i + 2) = 0 ∧ v = 0) ∨ (¬ xs (i + 2) = 0 ∧ v = 1)) ∧ sw_g v := by
    by_cases z : xs (i + 2) = 0
    · exact ⟨0, Or.inl ⟨z, rfl⟩, by decide⟩
    · exact ⟨1, Or.inr ⟨z, rfl⟩, by decide⟩
  obtain ⟨Q1, h1, k1⟩ := st_link N hN σ J ((xs (i + 1)).toInt) (v) (sw_i32g _) gv
  refine lr_x X (show decode code 423 = .ok (.aload_n 1, 1) by decide +kernel) ?_
  refine lr_arg X hi 1 1 rfl (by decide) (show decode code 424 = .ok (.aload_n 0, 1) by decide +kernel) (show decode code 425 = .ok (.iload_n 3, 1) by decide +kernel) (show decode code 426 = .ok (.iconst 1, 1) by decide +kernel) (show decode code 427 = .ok (.iadd, 1) by decide +kernel) (show decode code 428 = .ok (.iaload, 1) by decide +kernel) ?_
  refine lr_arg X hi 2 2 rfl (by decide) (show decode code 429 = .ok (.aload_n 0, 1) by decide +kernel) (show decode code 430 = .ok (.iload_n 3, 1) by decide +kernel) (show decode code 431 = .ok (.iconst 2, 1) by decide +kernel) (show decode code 432 = .ok (.iadd, 1) by decide +kernel) (show decode code 433 = .ok (.iaload, 1) by decide +kernel) ?_
  refine lr_bool X 434 _ hc (show decode code 434 = .ok (.ifCond .eq 7, 3) by decide +kernel) (show decode code 437 = .ok (.iconst 1, 1) by decide +kernel) (show decode code 438 = .ok (.goto 4, 3) by decide +kernel) (show decode code 441 = .ok (.iconst 0, 1) by decide +kernel) ?_
  refine lr_call X cV_X7_link ml_L_44 ⟨by decide, by decide⟩ (o := 0) rfl rfl [.inl ((xs (i + 1)).toInt), .inl v] [] rfl (by decide) h1 rfl (show decode code 442 = .ok (.invokevirtual 44, 3) by decide +kernel) (fun r1 σ1 q1 => ?_)
  obtain ⟨Q2, h2, k2⟩ := k1 r1 σ1 q1
  refine lr_m X (show decode code 445 = .ok (.aload_n 2, 1) by decide +kernel) ?_
  refine lr_arg X hi 1 1 rfl (by decide) (show decode code 446 = .ok (.aload_n 0, 1) by decide +kernel) (show decode code 447 = .ok (.iload_n 3, 1) by decide +kernel) (show decode code 448 = .ok (.iconst 1, 1) by decide +kernel) (show decode code 449 = .ok (.iadd, 1) by decide +kernel) (show decode code 450 = .ok (.iaload, 1) by decide +kernel) ?_
  refine lr_arg X hi 2 2 rfl (by decide) (show decode code 451 = .ok (.aload_n 0, 1) by decide +kernel) (show decode code 452 = .ok (.iload_n 3, 1) by decide +kernel) (show decode code 453 = .ok (.iconst 2, 1) by decide +kernel) (show decode code 454 = .ok (.iadd, 1) by decide +kernel) (show decode code 455 = .ok (.iaload, 1) by decide +kernel) ?_
  refine lr_bool X 456 _ hc (show decode code 456 = .ok (.ifCond .eq 7, 3) by decide +kernel) (show decode code 459 = .ok (.iconst 1, 1) by decide +kernel) (show decode code 460 = .ok (.goto 4, 3) by decide +kernel) (show decode code 463 = .ok (.iconst 0, 1) by decide +kernel) ?_
  refine lr_call X cV_X8_link ml_L_48 ⟨by decide, by decide⟩ (o := 26) rfl rfl [.inl ((xs (i + 1)).toInt), .inl v] r1.toList rfl (by cases r1 <;> simp) h2 (by simp) (show decode code 464 = .ok (.invokevirtual 48, 3) by decide +kernel) (fun r2 σ2 q2 => ?_)
  obtain ⟨x, e1, e2, J2⟩ := k2 r2 σ2 q2
  subst e1
  subst e2
  exact lr_eq X 1367 (by decide) (show decode code 467 = .ok (.if_icmp .eq 900, 3) by decide +kernel) (kk σ2 J2)
set_option maxRecDepth 20000 in
theorem lc_8 {p : Program} {l : Launch} {e : Env} {s : State} {m : MethodId} {below : List Frame} {meth : Method} {c : Code} {b L : Nat} {xs : Nat → Int32} {D : va_G} {c3 : sw_C3} {ad : Nat → Nat} {i : Nat} {σ : sw_S} {N : Int} (X : lw_X p s m meth c b L xs D c3 ad) (hi : i + 6 ≤ L) (hN : 0 ≤ N ∧ N ≤ 900000) (J : sw_J N σ σ) (kk : ∀ σ2, sw_J (N + 400) σ2 σ2 → lw_E p l e s m below meth c b D c3 ad 1367 i [] σ2) : lw_E p l e s m below meth c b D c3 ad 472 i [] σ := by
  obtain ⟨Q1, h1, k1⟩ := st_error N hN σ J ((xs (i + 1)).toInt) ((xs (i + 2)).toInt) (sw_i32g _) (sw_i32g _)
  refine lr_x X (show decode code 472 = .ok (.aload_n 1, 1) by decide +kernel) ?_
  refine lr_arg X hi 1 1 rfl (by decide) (show decode code 473 = .ok (.aload_n 0, 1) by decide +kernel) (show decode code 474 = .ok (.iload_n 3, 1) by decide +kernel) (show decode code 475 = .ok (.iconst 1, 1) by decide +kernel) (show decode code 476 = .ok (.iadd, 1) by decide +kernel) (show decode code 477 = .ok (.iaload, 1) by decide +kernel) ?_
  refine lr_arg X hi 2 2 rfl (by decide) (show decode code 478 = .ok (.aload_n 0, 1) by decide +kernel) (show decode code 479 = .ok (.iload_n 3, 1) by decide +kernel) (show decode code 480 = .ok (.iconst 2, 1) by decide +kernel) (show decode code 481 = .ok (.iadd, 1) by decide +kernel) (show decode code 482 = .ok (.iaload, 1) by decide +kernel) ?_
  refine lr_call X cV_X7_error ml_L_49 ⟨by decide, by decide⟩ (o := 0) rfl rfl [.inl ((xs (i + 1)).toInt), .inl ((xs (i + 2)).toInt)] [] rfl (by decide) h1 rfl (show decode code 483 = .ok (.invokevirtual 49, 3) by decide +kernel) (fun r1 σ1 q1 => ?_)
  obtain ⟨Q2, h2, k2⟩ := k1 r1 σ1 q1
  refine lr_m X (show decode code 486 = .ok (.aload_n 2, 1) by decide +kernel) ?_
  refine lr_arg X hi 1 1 rfl (by decide) (show decode code 487 = .ok (.aload_n 0, 1) by decide +kernel) (show decode code 488 = .ok (.iload_n 3, 1) by decide +kernel) (show decode code 489 = .ok (.iconst 1, 1) by decide +kernel) (show decode code 490 = .ok (.iadd, 1) by decide +kernel) (show decode code 491 = .ok (.iaload, 1) by decide +kernel) ?_
  refine lr_arg X hi 2 2 rfl (by decide) (show decode code 492 = .ok (.aload_n 0, 1) by decide +kernel) (show decode code 493 = .ok (.iload_n 3, 1) by decide +kernel) (show decode code 494 = .ok (.iconst 2, 1) by decide +kernel) (show decode code 495 = .ok (.iadd, 1) by decide +kernel) (show decode code 496 = .ok (.iaload, 1) by decide +kernel) ?_
  refine lr_call X cV_X8_error ml_L_52 ⟨by decide, by decide⟩ (o := 26) rfl rfl [.inl ((xs (i + 1)).toInt), .inl ((xs (i + 2)).toInt)] r1.toList rfl (by cases r1 <;> simp) h2 (by simp) (show decode code 497 = .ok (.invokevirtual 52, 3) by decide +kernel) (fun r2 σ2 q2 => ?_)
  obtain ⟨x, e1, e2, J2⟩ := k2 r2 σ2 q2
  subst e1
  subst e2
  exact lr_eq X 1367 (by decide) (show decode code 500 = .ok (.if_icmp .eq 867, 3) by decide +kernel) (kk σ2 J2)
set_option maxRecDepth 20000 in
theorem lc_9 {p : Program} {l : Launch} {e : Env} {s : State} {m : MethodId} {below : List Frame} {meth : Method} {c : Code} {b L : Nat} {xs : Nat → Int32} {D : va_G} {c3 : sw_C3} {ad : Nat → Nat} {i : Nat} {σ : sw_S} {N : Int} (X : lw_X p s m meth c b L xs D c3 ad) (hi : i + 6 ≤ L) (hN : 0 ≤ N ∧ N ≤ 900000) (J : sw_J N σ σ) (kk : ∀ σ2, sw_J (N + 400) σ2 σ2 → lw_E p l e s m below meth c b D c3 ad 1367 i [] σ2) : lw_E p l e s m below meth c b D c3 ad 505 i [] σ := by
  obtain ⟨Q1, h1, k1⟩ := st_guard N hN σ J ((xs (i + 1)).toInt) ((xs (i + 2)).toInt) (sw_i32g _) (sw_i32g _)
  refine lr_x X (show decode code 505 = .ok (.aload_n 1, 1) by decide +kernel) ?_
  refine lr_arg X hi 1 1 rfl (by decide) (show decode code 506 = .ok (.aload_n 0, 1) by decide +kernel) (show decode code 507 = .ok (.iload_n 3, 1) by decide +kernel) (show decode code 508 = .ok (.iconst 1, 1) by decide +kernel) (show decode code 509 = .ok (.iadd, 1) by decide +kernel) (show decode code 510 = .ok (.iaload, 1) by decide +kernel) ?_
  refine lr_arg X hi 2 2 rfl (by decide) (show decode code 511 = .ok (.aload_n 0, 1) by decide +kernel) (show decode code 512 = .ok (.iload_n 3, 1) by decide +kernel) (show decode code 513 = .ok (.iconst 2, 1) by decide +kernel) (show decode code 514 = .ok (.iadd, 1) by decide +kernel) (show decode code 515 = .ok (.iaload, 1) by decide +kernel) ?_
  refine lr_call X cV_X7_guard ml_L_53 ⟨by decide, by decide⟩ (o := 0) rfl rfl [.inl ((xs (i + 1)).toInt), .inl ((xs (i + 2)).toInt)] [] rfl (by decide) h1 rfl (show decode code 516 = .ok (.invokevirtual 53, 3) by decide +kernel) (fun r1 σ1 q1 => ?_)
  obtain ⟨Q2, h2, k2⟩ := k1 r1 σ1 q1
  refine lr_m X (show decode code 519 = .ok (.aload_n 2, 1) by decide +kernel) ?_
  refine lr_arg X hi 1 1 rfl (by decide) (show decode code 520 = .ok (.aload_n 0, 1) by decide +kernel) (show decode code 521 = .ok (.iload_n 3, 1) by decide +kernel) (show decode code 522 = .ok (.iconst 1, 1) by decide +kernel) (show decode code 523 = .ok (.iadd, 1) by decide +kernel) (show decode code 524 = .ok (.iaload, 1) by decide +kernel) ?_
  refine lr_arg X hi 2 2 rfl (by decide) (show decode code 525 = .ok (.aload_n 0, 1) by decide +kernel) (show decode code 526 = .ok (.iload_n 3, 1) by decide +kernel) (show decode code 527 = .ok (.iconst 2, 1) by decide +kernel) (show decode code 528 = .ok (.iadd, 1) by decide +kernel) (show decode code 529 = .ok (.iaload, 1) by decide +kernel) ?_
  refine lr_call X cV_X8_guard ml_L_56 ⟨by decide, by decide⟩ (o := 26) rfl rfl [.inl ((xs (i + 1)).toInt), .inl ((xs (i + 2)).toInt)] r1.toList rfl (by cases r1 <;> simp) h2 (by simp) (show decode code 530 = .ok (.invokevirtual 56, 3) by decide +kernel) (fun r2 σ2 q2 => ?_)
  obtain ⟨x, e1, e2, J2⟩ := k2 r2 σ2 q2
  subst e1
  subst e2
  exact lr_eq X 1367 (by decide) (show decode code 533 = .ok (.if_icmp .eq 834, 3) by decide +kernel) (kk σ2 J2)
set_option maxRecDepth 20000 in
theorem lc_10 {p : Program} {l : Launch} {e : Env} {s : State} {m : MethodId} {below : List Frame} {meth : Method} {c : Code} {b L : Nat} {xs : Nat → Int32} {D : va_G} {c3 : sw_C3} {ad : Nat → Nat} {i : Nat} {σ : sw_S} {N : Int} (X : lw_X p s m meth c b L xs D c3 ad) (hi : i + 6 ≤ L) (hN : 0 ≤ N ∧ N ≤ 900000) (J : sw_J N σ σ) (kk : ∀ σ2, sw_J (N + 400) σ2 σ2 → lw_E p l e s m below meth c b D c3 ad 1367 i [] σ2) : lw_E p l e s m below meth c b D c3 ad 538 i [] σ := by
  obtain ⟨Q1, h1, k1⟩ := st_begin N hN σ J ((xs (i + 1)).toInt) (sw_i32g _)
  refine lr_x X (show decode code 538 = .ok (.aload_n 1, 1) by decide +kernel) ?_
  refine lr_arg X hi 1 1 rfl (by decide) (show decode code 539 = .ok (.aload_n 0, 1) by decide +kernel) (show decode code 540 = .ok (.iload_n 3, 1) by decide +kernel) (show decode code 541 = .ok (.iconst 1, 1) by decide +kernel) (show decode code 542 = .ok (.iadd, 1) by decide +kernel) (show decode code 543 = .ok (.iaload, 1) by decide +kernel) ?_
  refine lr_call X cV_X7_begin ml_L_57 ⟨by decide, by decide⟩ (o := 0) rfl rfl [.inl ((xs (i + 1)).toInt)] [] rfl (by decide) h1 rfl (show decode code 544 = .ok (.invokevirtual 57, 3) by decide +kernel) (fun r1 σ1 q1 => ?_)
  obtain ⟨Q2, h2, k2⟩ := k1 r1 σ1 q1
  refine lr_m X (show decode code 547 = .ok (.aload_n 2, 1) by decide +kernel) ?_
  refine lr_arg X hi 1 1 rfl (by decide) (show decode code 548 = .ok (.aload_n 0, 1) by decide +kernel) (show decode code 549 = .ok (.iload_n 3, 1) by decide +kernel) (show decode code 550 = .ok (.iconst 1, 1) by decide +kernel) (show decode code 551 = .ok (.iadd, 1) by decide +kernel) (show decode code 552 = .ok (.iaload, 1) by decide +kernel) ?_
  refine lr_call X cV_X8_begin ml_L_60 ⟨by decide, by decide⟩ (o := 26) rfl rfl [.inl ((xs (i + 1)).toInt)] r1.toList rfl (by cases r1 <;> simp) h2 (by simp) (show decode code 553 = .ok (.invokevirtual 60, 3) by decide +kernel) (fun r2 σ2 q2 => ?_)
  obtain ⟨x, e1, e2, J2⟩ := k2 r2 σ2 q2
  subst e1
  subst e2
  exact lr_eq X 1367 (by decide) (show decode code 556 = .ok (.if_icmp .eq 811, 3) by decide +kernel) (kk σ2 J2)
set_option maxRecDepth 20000 in
theorem lc_11 {p : Program} {l : Launch} {e : Env} {s : State} {m : MethodId} {below : List Frame} {meth : Method} {c : Code} {b L : Nat} {xs : Nat → Int32} {D : va_G} {c3 : sw_C3} {ad : Nat → Nat} {i : Nat} {σ : sw_S} {N : Int} (X : lw_X p s m meth c b L xs D c3 ad) (hi : i + 6 ≤ L) (hN : 0 ≤ N ∧ N ≤ 900000) (J : sw_J N σ σ) (kk : ∀ σ2, sw_J (N + 400) σ2 σ2 → lw_E p l e s m below meth c b D c3 ad 1367 i [] σ2) : lw_E p l e s m below meth c b D c3 ad 561 i [] σ := by
  obtain ⟨Q1, h1, k1⟩ := st_pass N hN σ J ((xs (i + 1)).toInt) (sw_i32g _)
  refine lr_x X (show decode code 561 = .ok (.aload_n 1, 1) by decide +kernel) ?_
  refine lr_arg X hi 1 1 rfl (by decide) (show decode code 562 = .ok (.aload_n 0, 1) by decide +kernel) (show decode code 563 = .ok (.iload_n 3, 1) by decide +kernel) (show decode code 564 = .ok (.iconst 1, 1) by decide +kernel) (show decode code 565 = .ok (.iadd, 1) by decide +kernel) (show decode code 566 = .ok (.iaload, 1) by decide +kernel) ?_
  refine lr_call X cV_X7_pass ml_L_61 ⟨by decide, by decide⟩ (o := 0) rfl rfl [.inl ((xs (i + 1)).toInt)] [] rfl (by decide) h1 rfl (show decode code 567 = .ok (.invokevirtual 61, 3) by decide +kernel) (fun r1 σ1 q1 => ?_)
  obtain ⟨Q2, h2, k2⟩ := k1 r1 σ1 q1
  refine lr_m X (show decode code 570 = .ok (.aload_n 2, 1) by decide +kernel) ?_
  refine lr_arg X hi 1 1 rfl (by decide) (show decode code 571 = .ok (.aload_n 0, 1) by decide +kernel) (show decode code 572 = .ok (.iload_n 3, 1) by decide +kernel) (show decode code 573 = .ok (.iconst 1, 1) by decide +kernel) (show decode code 574 = .ok (.iadd, 1) by decide +kernel) (show decode code 575 = .ok (.iaload, 1) by decide +kernel) ?_
  refine lr_call X cV_X8_pass ml_L_64 ⟨by decide, by decide⟩ (o := 26) rfl rfl [.inl ((xs (i + 1)).toInt)] r1.toList rfl (by cases r1 <;> simp) h2 (by simp) (show decode code 576 = .ok (.invokevirtual 64, 3) by decide +kernel) (fun r2 σ2 q2 => ?_)
  obtain ⟨x, e1, e2, J2⟩ := k2 r2 σ2 q2
  subst e1
  subst e2
  exact lr_eq X 1367 (by decide) (show decode code 579 = .ok (.if_icmp .eq 788, 3) by decide +kernel) (kk σ2 J2)
set_option maxRecDepth 20000 in
theorem lc_12 {p : Program} {l : Launch} {e : Env} {s : State} {m : MethodId} {below : List Frame} {meth : Method} {c : Code} {b L : Nat} {xs : Nat → Int32} {D : va_G} {c3 : sw_C3} {ad : Nat → Nat} {i : Nat} {σ : sw_S} {N : Int} (X : lw_X p s m meth c b L xs D c3 ad) (hi : i + 6 ≤ L) (hN : 0 ≤ N ∧ N ≤ 900000) (J : sw_J N σ σ) (kk : ∀ σ2, sw_J (N + 400) σ2 σ2 → lw_E p l e s m below meth c b D c3 ad 1367 i [] σ2) : lw_E p l e s m below meth c b D c3 ad 584 i [] σ := by
  obtain ⟨Q1, h1, k1⟩ := st_state N hN σ J ((xs (i + 1)).toInt) (sw_i32g _)
  refine lr_x X (show decode code 584 = .ok (.aload_n 1, 1) by decide +kernel) ?_
  refine lr_arg X hi 1 1 rfl (by decide) (show decode code 585 = .ok (.aload_n 0, 1) by decide +kernel) (show decode code 586 = .ok (.iload_n 3, 1) by decide +kernel) (show decode code 587 = .ok (.iconst 1, 1) by decide +kernel) (show decode code 588 = .ok (.iadd, 1) by decide +kernel) (show decode code 589 = .ok (.iaload, 1) by decide +kernel) ?_
  refine lr_call X cV_X7_state ml_L_65 ⟨by decide, by decide⟩ (o := 0) rfl rfl [.inl ((xs (i + 1)).toInt)] [] rfl (by decide) h1 rfl (show decode code 590 = .ok (.invokevirtual 65, 3) by decide +kernel) (fun r1 σ1 q1 => ?_)
  obtain ⟨Q2, h2, k2⟩ := k1 r1 σ1 q1
  refine lr_m X (show decode code 593 = .ok (.aload_n 2, 1) by decide +kernel) ?_
  refine lr_arg X hi 1 1 rfl (by decide) (show decode code 594 = .ok (.aload_n 0, 1) by decide +kernel) (show decode code 595 = .ok (.iload_n 3, 1) by decide +kernel) (show decode code 596 = .ok (.iconst 1, 1) by decide +kernel) (show decode code 597 = .ok (.iadd, 1) by decide +kernel) (show decode code 598 = .ok (.iaload, 1) by decide +kernel) ?_
  refine lr_call X cV_X8_state ml_L_68 ⟨by decide, by decide⟩ (o := 26) rfl rfl [.inl ((xs (i + 1)).toInt)] r1.toList rfl (by cases r1 <;> simp) h2 (by simp) (show decode code 599 = .ok (.invokevirtual 68, 3) by decide +kernel) (fun r2 σ2 q2 => ?_)
  obtain ⟨x, e1, e2, J2⟩ := k2 r2 σ2 q2
  subst e1
  subst e2
  exact lr_eq X 1367 (by decide) (show decode code 602 = .ok (.if_icmp .eq 765, 3) by decide +kernel) (kk σ2 J2)
set_option maxRecDepth 20000 in
theorem lc_13 {p : Program} {l : Launch} {e : Env} {s : State} {m : MethodId} {below : List Frame} {meth : Method} {c : Code} {b L : Nat} {xs : Nat → Int32} {D : va_G} {c3 : sw_C3} {ad : Nat → Nat} {i : Nat} {σ : sw_S} {N : Int} (X : lw_X p s m meth c b L xs D c3 ad) (hi : i + 6 ≤ L) (hN : 0 ≤ N ∧ N ≤ 900000) (J : sw_J N σ σ) (kk : ∀ σ2, sw_J (N + 400) σ2 σ2 → lw_E p l e s m below meth c b D c3 ad 1367 i [] σ2) : lw_E p l e s m below meth c b D c3 ad 607 i [] σ := by
  obtain ⟨Q1, h1, k1⟩ := st_loads N hN σ J ((xs (i + 1)).toInt) ((xs (i + 2)).toInt) ((xs (i + 3)).toInt) (sw_i32g _) (sw_i32g _) (sw_i32g _)
  refine lr_x X (show decode code 607 = .ok (.aload_n 1, 1) by decide +kernel) ?_
  refine lr_arg X hi 1 1 rfl (by decide) (show decode code 608 = .ok (.aload_n 0, 1) by decide +kernel) (show decode code 609 = .ok (.iload_n 3, 1) by decide +kernel) (show decode code 610 = .ok (.iconst 1, 1) by decide +kernel) (show decode code 611 = .ok (.iadd, 1) by decide +kernel) (show decode code 612 = .ok (.iaload, 1) by decide +kernel) ?_
  refine lr_arg X hi 2 2 rfl (by decide) (show decode code 613 = .ok (.aload_n 0, 1) by decide +kernel) (show decode code 614 = .ok (.iload_n 3, 1) by decide +kernel) (show decode code 615 = .ok (.iconst 2, 1) by decide +kernel) (show decode code 616 = .ok (.iadd, 1) by decide +kernel) (show decode code 617 = .ok (.iaload, 1) by decide +kernel) ?_
  refine lr_arg X hi 3 3 rfl (by decide) (show decode code 618 = .ok (.aload_n 0, 1) by decide +kernel) (show decode code 619 = .ok (.iload_n 3, 1) by decide +kernel) (show decode code 620 = .ok (.iconst 3, 1) by decide +kernel) (show decode code 621 = .ok (.iadd, 1) by decide +kernel) (show decode code 622 = .ok (.iaload, 1) by decide +kernel) ?_
  refine lr_call X cV_X7_loads ml_L_69 ⟨by decide, by decide⟩ (o := 0) rfl rfl [.inl ((xs (i + 1)).toInt), .inl ((xs (i + 2)).toInt), .inl ((xs (i + 3)).toInt)] [] rfl (by decide) h1 rfl (show decode code 623 = .ok (.invokevirtual 69, 3) by decide +kernel) (fun r1 σ1 q1 => ?_)
  obtain ⟨Q2, h2, k2⟩ := k1 r1 σ1 q1
  refine lr_m X (show decode code 626 = .ok (.aload_n 2, 1) by decide +kernel) ?_
  refine lr_arg X hi 1 1 rfl (by decide) (show decode code 627 = .ok (.aload_n 0, 1) by decide +kernel) (show decode code 628 = .ok (.iload_n 3, 1) by decide +kernel) (show decode code 629 = .ok (.iconst 1, 1) by decide +kernel) (show decode code 630 = .ok (.iadd, 1) by decide +kernel) (show decode code 631 = .ok (.iaload, 1) by decide +kernel) ?_
  refine lr_arg X hi 2 2 rfl (by decide) (show decode code 632 = .ok (.aload_n 0, 1) by decide +kernel) (show decode code 633 = .ok (.iload_n 3, 1) by decide +kernel) (show decode code 634 = .ok (.iconst 2, 1) by decide +kernel) (show decode code 635 = .ok (.iadd, 1) by decide +kernel) (show decode code 636 = .ok (.iaload, 1) by decide +kernel) ?_
  refine lr_arg X hi 3 3 rfl (by decide) (show decode code 637 = .ok (.aload_n 0, 1) by decide +kernel) (show decode code 638 = .ok (.iload_n 3, 1) by decide +kernel) (show decode code 639 = .ok (.iconst 3, 1) by decide +kernel) (show decode code 640 = .ok (.iadd, 1) by decide +kernel) (show decode code 641 = .ok (.iaload, 1) by decide +kernel) ?_
  refine lr_call X cV_X8_loads ml_L_72 ⟨by decide, by decide⟩ (o := 26) rfl rfl [.inl ((xs (i + 1)).toInt), .inl ((xs (i + 2)).toInt), .inl ((xs (i + 3)).toInt)] r1.toList rfl (by cases r1 <;> simp) h2 (by simp) (show decode code 642 = .ok (.invokevirtual 72, 3) by decide +kernel) (fun r2 σ2 q2 => ?_)
  obtain ⟨x, e1, e2, J2⟩ := k2 r2 σ2 q2
  subst e1
  subst e2
  exact lr_eq X 1367 (by decide) (show decode code 645 = .ok (.if_icmp .eq 722, 3) by decide +kernel) (kk σ2 J2)
set_option maxRecDepth 20000 in
theorem lc_14 {p : Program} {l : Launch} {e : Env} {s : State} {m : MethodId} {below : List Frame} {meth : Method} {c : Code} {b L : Nat} {xs : Nat → Int32} {D : va_G} {c3 : sw_C3} {ad : Nat → Nat} {i : Nat} {σ : sw_S} {N : Int} (X : lw_X p s m meth c b L xs D c3 ad) (hi : i + 6 ≤ L) (hN : 0 ≤ N ∧ N ≤ 900000) (J : sw_J N σ σ) (kk : ∀ σ2, sw_J (N + 400) σ2 σ2 → lw_E p l e s m below meth c b D c3 ad 1367 i [] σ2) : lw_E p l e s m below meth c b D c3 ad 650 i [] σ := by
  obtain ⟨Q1, h1, k1⟩ := st_ratio N hN σ J ((xs (i + 1)).toInt) (sw_i32g _)
  refine lr_x X (show decode code 650 = .ok (.aload_n 1, 1) by decide +kernel) ?_
  refine lr_arg X hi 1 1 rfl (by decide) (show decode code 651 = .ok (.aload_n 0, 1) by decide +kernel) (show decode code 652 = .ok (.iload_n 3, 1) by decide +kernel) (show decode code 653 = .ok (.iconst 1, 1) by decide +kernel) (show decode code 654 = .ok (.iadd, 1) by decide +kernel) (show decode code 655 = .ok (.iaload, 1) by decide +kernel) ?_
  refine lr_call X cV_X7_ratio ml_L_73 ⟨by decide, by decide⟩ (o := 0) rfl rfl [.inl ((xs (i + 1)).toInt)] [] rfl (by decide) h1 rfl (show decode code 656 = .ok (.invokevirtual 73, 3) by decide +kernel) (fun r1 σ1 q1 => ?_)
  obtain ⟨Q2, h2, k2⟩ := k1 r1 σ1 q1
  refine lr_m X (show decode code 659 = .ok (.aload_n 2, 1) by decide +kernel) ?_
  refine lr_arg X hi 1 1 rfl (by decide) (show decode code 660 = .ok (.aload_n 0, 1) by decide +kernel) (show decode code 661 = .ok (.iload_n 3, 1) by decide +kernel) (show decode code 662 = .ok (.iconst 1, 1) by decide +kernel) (show decode code 663 = .ok (.iadd, 1) by decide +kernel) (show decode code 664 = .ok (.iaload, 1) by decide +kernel) ?_
  refine lr_call X cV_X8_ratio ml_L_76 ⟨by decide, by decide⟩ (o := 26) rfl rfl [.inl ((xs (i + 1)).toInt)] r1.toList rfl (by cases r1 <;> simp) h2 (by simp) (show decode code 665 = .ok (.invokevirtual 76, 3) by decide +kernel) (fun r2 σ2 q2 => ?_)
  obtain ⟨x, e1, e2, J2⟩ := k2 r2 σ2 q2
  subst e1
  subst e2
  exact lr_eq X 1367 (by decide) (show decode code 668 = .ok (.if_icmp .eq 699, 3) by decide +kernel) (kk σ2 J2)
set_option maxRecDepth 20000 in
theorem lc_15 {p : Program} {l : Launch} {e : Env} {s : State} {m : MethodId} {below : List Frame} {meth : Method} {c : Code} {b L : Nat} {xs : Nat → Int32} {D : va_G} {c3 : sw_C3} {ad : Nat → Nat} {i : Nat} {σ : sw_S} {N : Int} (X : lw_X p s m meth c b L xs D c3 ad) (hi : i + 6 ≤ L) (hN : 0 ≤ N ∧ N ≤ 900000) (J : sw_J N σ σ) (kk : ∀ σ2, sw_J (N + 400) σ2 σ2 → lw_E p l e s m below meth c b D c3 ad 1367 i [] σ2) : lw_E p l e s m below meth c b D c3 ad 673 i [] σ := by
  obtain ⟨Q1, h1, k1⟩ := st_slips N hN σ J ((xs (i + 1)).toInt) ((xs (i + 2)).toInt) (sw_i32g _) (sw_i32g _)
  refine lr_x X (show decode code 673 = .ok (.aload_n 1, 1) by decide +kernel) ?_
  refine lr_arg X hi 1 1 rfl (by decide) (show decode code 674 = .ok (.aload_n 0, 1) by decide +kernel) (show decode code 675 = .ok (.iload_n 3, 1) by decide +kernel) (show decode code 676 = .ok (.iconst 1, 1) by decide +kernel) (show decode code 677 = .ok (.iadd, 1) by decide +kernel) (show decode code 678 = .ok (.iaload, 1) by decide +kernel) ?_
  refine lr_arg X hi 2 2 rfl (by decide) (show decode code 679 = .ok (.aload_n 0, 1) by decide +kernel) (show decode code 680 = .ok (.iload_n 3, 1) by decide +kernel) (show decode code 681 = .ok (.iconst 2, 1) by decide +kernel) (show decode code 682 = .ok (.iadd, 1) by decide +kernel) (show decode code 683 = .ok (.iaload, 1) by decide +kernel) ?_
  refine lr_call X cV_X7_slips ml_L_77 ⟨by decide, by decide⟩ (o := 0) rfl rfl [.inl ((xs (i + 1)).toInt), .inl ((xs (i + 2)).toInt)] [] rfl (by decide) h1 rfl (show decode code 684 = .ok (.invokevirtual 77, 3) by decide +kernel) (fun r1 σ1 q1 => ?_)
  obtain ⟨Q2, h2, k2⟩ := k1 r1 σ1 q1
  refine lr_m X (show decode code 687 = .ok (.aload_n 2, 1) by decide +kernel) ?_
  refine lr_arg X hi 1 1 rfl (by decide) (show decode code 688 = .ok (.aload_n 0, 1) by decide +kernel) (show decode code 689 = .ok (.iload_n 3, 1) by decide +kernel) (show decode code 690 = .ok (.iconst 1, 1) by decide +kernel) (show decode code 691 = .ok (.iadd, 1) by decide +kernel) (show decode code 692 = .ok (.iaload, 1) by decide +kernel) ?_
  refine lr_arg X hi 2 2 rfl (by decide) (show decode code 693 = .ok (.aload_n 0, 1) by decide +kernel) (show decode code 694 = .ok (.iload_n 3, 1) by decide +kernel) (show decode code 695 = .ok (.iconst 2, 1) by decide +kernel) (show decode code 696 = .ok (.iadd, 1) by decide +kernel) (show decode code 697 = .ok (.iaload, 1) by decide +kernel) ?_
  refine lr_call X cV_X8_slips ml_L_80 ⟨by decide, by decide⟩ (o := 26) rfl rfl [.inl ((xs (i + 1)).toInt), .inl ((xs (i + 2)).toInt)] r1.toList rfl (by cases r1 <;> simp) h2 (by simp) (show decode code 698 = .ok (.invokevirtual 80, 3) by decide +kernel) (fun r2 σ2 q2 => ?_)
  obtain ⟨x, e1, e2, J2⟩ := k2 r2 σ2 q2
  subst e1
  subst e2
  exact lr_eq X 1367 (by decide) (show decode code 701 = .ok (.if_icmp .eq 666, 3) by decide +kernel) (kk σ2 J2)
set_option maxRecDepth 20000 in
theorem lc_16 {p : Program} {l : Launch} {e : Env} {s : State} {m : MethodId} {below : List Frame} {meth : Method} {c : Code} {b L : Nat} {xs : Nat → Int32} {D : va_G} {c3 : sw_C3} {ad : Nat → Nat} {i : Nat} {σ : sw_S} {N : Int} (X : lw_X p s m meth c b L xs D c3 ad) (hi : i + 6 ≤ L) (hN : 0 ≤ N ∧ N ≤ 900000) (J : sw_J N σ σ) (kk : ∀ σ2, sw_J (N + 400) σ2 σ2 → lw_E p l e s m below meth c b D c3 ad 1367 i [] σ2) : lw_E p l e s m below meth c b D c3 ad 706 i [] σ := by
  obtain ⟨Q1, h1, k1⟩ := st_slipAt N hN σ J ((xs (i + 1)).toInt) (sw_i32g _)
  refine lr_x X (show decode code 706 = .ok (.aload_n 1, 1) by decide +kernel) ?_
  refine lr_arg X hi 1 1 rfl (by decide) (show decode code 707 = .ok (.aload_n 0, 1) by decide +kernel) (show decode code 708 = .ok (.iload_n 3, 1) by decide +kernel) (show decode code 709 = .ok (.iconst 1, 1) by decide +kernel) (show decode code 710 = .ok (.iadd, 1) by decide +kernel) (show decode code 711 = .ok (.iaload, 1) by decide +kernel) ?_
  refine lr_call X cV_X7_slipAt ml_L_81 ⟨by decide, by decide⟩ (o := 0) rfl rfl [.inl ((xs (i + 1)).toInt)] [] rfl (by decide) h1 rfl (show decode code 712 = .ok (.invokevirtual 81, 3) by decide +kernel) (fun r1 σ1 q1 => ?_)
  obtain ⟨Q2, h2, k2⟩ := k1 r1 σ1 q1
  refine lr_m X (show decode code 715 = .ok (.aload_n 2, 1) by decide +kernel) ?_
  refine lr_arg X hi 1 1 rfl (by decide) (show decode code 716 = .ok (.aload_n 0, 1) by decide +kernel) (show decode code 717 = .ok (.iload_n 3, 1) by decide +kernel) (show decode code 718 = .ok (.iconst 1, 1) by decide +kernel) (show decode code 719 = .ok (.iadd, 1) by decide +kernel) (show decode code 720 = .ok (.iaload, 1) by decide +kernel) ?_
  refine lr_call X cV_X8_slipAt ml_L_84 ⟨by decide, by decide⟩ (o := 26) rfl rfl [.inl ((xs (i + 1)).toInt)] r1.toList rfl (by cases r1 <;> simp) h2 (by simp) (show decode code 721 = .ok (.invokevirtual 84, 3) by decide +kernel) (fun r2 σ2 q2 => ?_)
  obtain ⟨x, e1, e2, J2⟩ := k2 r2 σ2 q2
  subst e1
  subst e2
  exact lr_eq X 1367 (by decide) (show decode code 724 = .ok (.if_icmp .eq 643, 3) by decide +kernel) (kk σ2 J2)
set_option maxRecDepth 20000 in
theorem lc_17 {p : Program} {l : Launch} {e : Env} {s : State} {m : MethodId} {below : List Frame} {meth : Method} {c : Code} {b L : Nat} {xs : Nat → Int32} {D : va_G} {c3 : sw_C3} {ad : Nat → Nat} {i : Nat} {σ : sw_S} {N : Int} (X : lw_X p s m meth c b L xs D c3 ad) (hi : i + 6 ≤ L) (hN : 0 ≤ N ∧ N ≤ 900000) (J : sw_J N σ σ) (kk : ∀ σ2, sw_J (N + 400) σ2 σ2 → lw_E p l e s m below meth c b D c3 ad 1367 i [] σ2) : lw_E p l e s m below meth c b D c3 ad 729 i [] σ := by
  obtain ⟨Q1, h1, k1⟩ := st_hold N hN σ J ((xs (i + 1)).toInt) (sw_i32g _)
  refine lr_x X (show decode code 729 = .ok (.aload_n 1, 1) by decide +kernel) ?_
  refine lr_arg X hi 1 1 rfl (by decide) (show decode code 730 = .ok (.aload_n 0, 1) by decide +kernel) (show decode code 731 = .ok (.iload_n 3, 1) by decide +kernel) (show decode code 732 = .ok (.iconst 1, 1) by decide +kernel) (show decode code 733 = .ok (.iadd, 1) by decide +kernel) (show decode code 734 = .ok (.iaload, 1) by decide +kernel) ?_
  refine lr_call X cV_X7_hold ml_L_85 ⟨by decide, by decide⟩ (o := 0) rfl rfl [.inl ((xs (i + 1)).toInt)] [] rfl (by decide) h1 rfl (show decode code 735 = .ok (.invokevirtual 85, 3) by decide +kernel) (fun r1 σ1 q1 => ?_)
  obtain ⟨Q2, h2, k2⟩ := k1 r1 σ1 q1
  refine lr_m X (show decode code 738 = .ok (.aload_n 2, 1) by decide +kernel) ?_
  refine lr_arg X hi 1 1 rfl (by decide) (show decode code 739 = .ok (.aload_n 0, 1) by decide +kernel) (show decode code 740 = .ok (.iload_n 3, 1) by decide +kernel) (show decode code 741 = .ok (.iconst 1, 1) by decide +kernel) (show decode code 742 = .ok (.iadd, 1) by decide +kernel) (show decode code 743 = .ok (.iaload, 1) by decide +kernel) ?_
  refine lr_call X cV_X8_hold ml_L_88 ⟨by decide, by decide⟩ (o := 26) rfl rfl [.inl ((xs (i + 1)).toInt)] r1.toList rfl (by cases r1 <;> simp) h2 (by simp) (show decode code 744 = .ok (.invokevirtual 88, 3) by decide +kernel) (fun r2 σ2 q2 => ?_)
  obtain ⟨x, e1, e2, J2⟩ := k2 r2 σ2 q2
  subst e1
  subst e2
  exact lr_eq X 1367 (by decide) (show decode code 747 = .ok (.if_icmp .eq 620, 3) by decide +kernel) (kk σ2 J2)
