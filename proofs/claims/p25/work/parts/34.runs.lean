set_option maxHeartbeats 40000000 in
set_option maxRecDepth 100000 in
theorem c_L_runs {l : Launch} {D : va_G} {cI cG cC cR : ClassId} {aa : Nat → Nat → Nat} {x0 x1 x2 pp tt tl on k : Nat} {pf : Nat → Nat} {VV : Nat → Nat → Nat → Int32} {TV : Nat → Nat → Int32} {tex now past : Nat → Int32} {q9 : Int32} (hX : XI now past k on VV) : CtI l yL_runs wsL_runs { frames := 4, cells := 0, slots := 0, locals := 93 } D (TY cI cG cC cR) [.ref x0, .int q9] (XW aa x0 x1 x2 pp tt cI cG cC cR VV TV tex pf tl on k) (fun (_ : Unit) => XW aa x0 x1 x2 pp tt cI cG cC cR VV TV tex pf tl on k) (fun (r : Int32) (_ : Unit) => r = nI 1) := by
  refine CtI.of (cc := cL_runs) (maxL := 12) (ty := .boolean) (by decide) rfl (Nat.le_of_ble_eq_true rfl) ?_
  intro P0 e0 s0 m0 a0 b0 t0 c0 A0 Q0 ls F hK hP hD hA RETN hl
  obtain ⟨hx, hb, hml, hown, hts⟩ := id F
  have hS : va_S A0 s0.heap s0.heap [] := va_S.rf
  have hl : lv_has ls 12 [(0, .ref x0), (1, .int q9)] := hl
  obtain ⟨hon, hk5, R, hI, hH⟩ := id hX
  obtain ⟨ki, kb, kB, kz, ko⟩ := id hI
  refine lv_iconst (v := (nI 1)) hx hb dL_runs_0 (by decide) ?_
  refine lv_iload_n hx hb dL_runs_1 rfl (lv_at hl 1 rfl) ?_
  refine lv_bipush (v := (nI 64)) hx hb dL_runs_2 (by decide) ?_
  refine cl_S0 (As := [.int q9, .int (nI 64)]) (rest := [.int (nI 1)]) F hK hA hP hD hS (c_L_up (by decide) (by decide)) (va_cwS 2 hts gL_runs_L_up rfl rfl rfl (by decide +kernel) ⟨Nat.le_of_ble_eq_true rfl, Nat.le_of_ble_eq_true rfl⟩) rfl hl.1 rfl (Nat.le_of_ble_eq_true rfl) ⟨Nat.zero_le _, Nat.zero_le _⟩ dL_runs_4 (fun r4 H locs hw4 hP hS => ?_)
  try dsimp only at hw4
  obtain ⟨j4, hj_j4, rfl⟩ := hw4
  refine lv_iadd hx hb dL_runs_7 ?_
  refine n_as (x' := nI (1 + j4)) (nI_add _ _) ?_
  refine lv_istore_n (lv' := [(2, .int (nI (1 + j4))), (0, .ref x0), (1, .int q9)]) hx hb dL_runs_8 rfl hl (by decide) rfl (fun ls hl => ?_)
  refine lv_iconst (v := (nI 4)) hx hb dL_runs_9 (by decide) ?_
  refine lv_iload_n hx hb dL_runs_10 rfl (lv_at hl 2 rfl) ?_
  refine lv_bipush (v := (nI 7)) hx hb dL_runs_11 (by decide) ?_
  refine lv_ishr hx hb dL_runs_13 ?_
  refine lv_iconst (v := (nI 4)) hx hb dL_runs_14 (by decide) ?_
  refine cl_S0 (As := [.int (q9 >>> ((nI 7) &&& 31)), .int (nI 4)]) (rest := [.int (nI 4)]) F hK hA hP hD hS (c_L_up (by decide) (by decide)) (va_cwS 2 hts gL_runs_L_up rfl rfl rfl (by decide +kernel) ⟨Nat.le_of_ble_eq_true rfl, Nat.le_of_ble_eq_true rfl⟩) rfl hl.1 rfl (Nat.le_of_ble_eq_true rfl) ⟨Nat.zero_le _, Nat.zero_le _⟩ dL_runs_15 (fun r15 H locs hw15 hP hS => ?_)
  try dsimp only at hw15
  obtain ⟨j15, hj_j15, rfl⟩ := hw15
  obtain ⟨z, hz, hz4⟩ := sz_of hj_j15
  have hzl := okz_le hz
  refine lv_ishl hx hb dL_runs_18 ?_
  refine n_as (x' := (nI z)) (hz4) ?_
  refine lv_istore_n (lv' := [(3, .int (nI z)), (2, .int (nI (1 + j4))), (0, .ref x0), (1, .int q9)]) hx hb dL_runs_19 rfl hl (by decide) rfl (fun ls hl => ?_)
  refine lv_iconst (v := (nI 0)) hx hb dL_runs_20 (by decide) ?_
  refine lv_istore (lv' := [(4, .int (nI 0)), (3, .int (nI z)), (2, .int (nI (1 + j4))), (0, .ref x0), (1, .int q9)]) hx hb dL_runs_21 hl (by decide) rfl (fun ls hl => ?_)
  refine lv_iconst (v := (nI 0)) hx hb dL_runs_23 (by decide) ?_
  refine lv_istore (lv' := [(5, .int (nI 0)), (4, .int (nI 0)), (3, .int (nI z)), (2, .int (nI (1 + j4))), (0, .ref x0), (1, .int q9)]) hx hb dL_runs_24 hl (by decide) rfl (fun ls hl => ?_)
  refine lv_iconst (v := (nI 0)) hx hb dL_runs_26 (by decide) ?_
  refine lv_istore (lv' := [(6, .int (nI 0)), (5, .int (nI 0)), (4, .int (nI 0)), (3, .int (nI z)), (2, .int (nI (1 + j4))), (0, .ref x0), (1, .int q9)]) hx hb dL_runs_27 hl (by decide) rfl (fun ls hl => ?_)
  refine lv_bipush (v := (-9)) hx hb dL_runs_29 (by decide) ?_
  refine lv_istore (lv' := [(7, .int (-9)), (6, .int (nI 0)), (5, .int (nI 0)), (4, .int (nI 0)), (3, .int (nI z)), (2, .int (nI (1 + j4))), (0, .ref x0), (1, .int q9)]) hx hb dL_runs_31 hl (by decide) rfl (fun ls hl => ?_)
  refine lv_iconst (v := (nI 0)) hx hb dL_runs_33 (by decide) ?_
  refine lv_istore (lv' := [(8, .int (nI 0)), (7, .int (-9)), (6, .int (nI 0)), (5, .int (nI 0)), (4, .int (nI 0)), (3, .int (nI z)), (2, .int (nI (1 + j4))), (0, .ref x0), (1, .int q9)]) hx hb dL_runs_34 hl (by decide) rfl (fun ls hl => ?_)
  have LP36 : ∀ (nn : Nat) (n : Nat) (mx : Nat) (r : Nat) (o : Option Nat) (s : Nat) (H : Heap) (locs : List Loc) (ls : Array Slot), (s ≤ 320) → (r ≤ s) → (n ≤ s) → (mx ≤ s) → (rsg now 320 0 0 0 0 = rsg now (320 - s) s r n mx) → ((∃ a, o = some a ∧ a < 320 ∧ rn now (1 + j4) 320 0 0 = some a) ∨ (o = none ∧ rn now (1 + j4) 320 0 0 = rn now (1 + j4) (320 - s) s r)) → 320 - s < nn → va_P D vwCl (XW aa x0 x1 x2 pp tt cI cG cC cR VV TV tex pf tl on k) H → va_D A0 (XW aa x0 x1 x2 pp tt cI cG cC cR VV TV tex pf tl on k) → va_S A0 s0.heap H locs → lv_has ls 12 [(8, .int (nI s)), (7, .int (oI o)), (6, .int (nI r)), (5, .int (nI mx)), (4, .int (nI n)), (3, .int (nI z)), (2, .int (nI (1 + j4))), (0, .ref x0), (1, .int q9)] → W P0 l e0 { frames := 4, cells := 0, slots := 0, locals := 93 } s0 m0 a0 b0 t0 c0 H locs 0 0 Q0 (F0 m0 36 ls []) := by
    intro nn
    induction nn with
    | zero => intro n mx r o s H locs ls hs hr hn hmx hg ho hmu; exact absurd hmu (Nat.not_lt_zero _)
    | succ nn ih36 =>
      intro n mx r o s H locs ls hs hr hn hmx hg ho hmu36 hP hD hS hl
      refine lv_iload hx hb dL_runs_36 (lv_at hl 0 rfl) ?_
      refine lv_sipush (v := (nI 320)) hx hb dL_runs_38 (by decide) ?_
      refine lv_icmp_ge (tgt := 126) hx hb dL_runs_41 (by decide) (fun c41 => ?_) (fun c41 => ?_)
      · skip
        replace c41 : 320 ≤ s := by rw [nI_leI (by omega) (by omega)] at c41; try exact c41
        obtain rfl : s = 320 := by omega
        have hg1 : rsg now 320 0 0 0 0 = (n, mx) := hg.trans (rsg_e (by omega))
        have hra : rn now (1 + j4) 320 0 0 = o := ho.elim (fun ⟨a, e, _, h⟩ => by rw [e]; exact h) (fun ⟨e, h⟩ => by rw [e]; exact h.trans (rn_end (by omega)))
        refine lv_bipush (v := (-9)) hx hb dL_runs_126 (by decide) ?_
        refine lv_istore (lv' := [(8, .int (-9)), (7, .int (oI o)), (6, .int (nI r)), (5, .int (nI mx)), (4, .int (nI n)), (3, .int (nI z)), (2, .int (nI (1 + j4))), (0, .ref x0), (1, .int q9)]) hx hb dL_runs_128 hl (by decide) rfl (fun ls hl => ?_)
        refine lv_sipush (v := (nI 320)) hx hb dL_runs_130 (by decide) ?_
        refine lv_iload_n hx hb dL_runs_133 rfl (lv_at hl 5 rfl) ?_
        refine lv_isub hx hb dL_runs_134 ?_
        refine n_as (x' := nI (320 - z)) (pk_sub (by omega)) ?_
        refine lv_istore (lv' := [(9, .int (nI (320 - z))), (8, .int (-9)), (7, .int (oI o)), (6, .int (nI r)), (5, .int (nI mx)), (4, .int (nI n)), (3, .int (nI z)), (2, .int (nI (1 + j4))), (0, .ref x0), (1, .int q9)]) hx hb dL_runs_135 hl (by decide) rfl (fun ls hl => ?_)
        have LP137 : ∀ (nn : Nat) (o2 : Option Nat) (n2 : Nat) (H : Heap) (locs : List Loc) (ls : Array Slot), (n2 ≤ 320 / z) → (o2 = (ls1 (plq now z) (320 / z - n2) n2).map (fun q => z * q)) → n2 < nn → va_P D vwCl (XW aa x0 x1 x2 pp tt cI cG cC cR VV TV tex pf tl on k) H → va_D A0 (XW aa x0 x1 x2 pp tt cI cG cC cR VV TV tex pf tl on k) → va_S A0 s0.heap H locs → lv_has ls 12 [(9, .int (dz z n2)), (8, .int (oI o2)), (7, .int (oI o)), (6, .int (nI r)), (5, .int (nI mx)), (4, .int (nI n)), (3, .int (nI z)), (2, .int (nI (1 + j4))), (0, .ref x0), (1, .int q9)] → W P0 l e0 { frames := 4, cells := 0, slots := 0, locals := 93 } s0 m0 a0 b0 t0 c0 H locs 0 0 Q0 (F0 m0 137 ls []) := by
          intro nn
          induction nn with
          | zero => intro o2 n2 H locs ls hn2 ho2 hmu; exact absurd hmu (Nat.not_lt_zero _)
          | succ nn ih137 =>
            intro o2 n2 H locs ls hn2 ho2 hmu137 hP hD hS hl
            refine lv_iload hx hb dL_runs_137 (lv_at hl 0 rfl) ?_
            refine lv_if_lt (tgt := 209) hx hb dL_runs_139 (by decide) (fun c139 => ?_) (fun c139 => ?_)
            · skip
              obtain rfl : n2 = 0 := dz_t hz hn2 c139
              have hpl : pl now z = o2 := by rw [ho2]; rfl
              refine lv_aload_n hx hb dL_runs_209 rfl (lv_at hl 8 rfl) ?_
              refine lv_bipush (v := (nI 8)) hx hb dL_runs_210 (by decide) ?_
              refine cl_VA (b := x0) (As := [.int (nI 8)]) (rest := []) F hK hA hP hD hS (c_X3_count hX) (cwV 1 hts gL_runs_X3_count rfl rfl rfl (by decide +kernel) ⟨Nat.le_of_ble_eq_true rfl, Nat.le_of_ble_eq_true rfl⟩) rfl rfl rfl hl.1 rfl (Nat.le_of_ble_eq_true rfl) ⟨Nat.zero_le _, Nat.zero_le _⟩ dL_runs_212 (fun r212 u212 H locs hw212 hP hD hS => ?_)
              try dsimp only at hw212 hP hD
              obtain rfl : r212 = (nI n) := by rw [hw212, ctA_j (by decide)]; exact congrArg (fun q => nI q.1) hg1
              refine lv_iload hx hb dL_runs_215 (lv_at hl 5 rfl) ?_
              refine lv_icmp_ne (tgt := 255) hx hb dL_runs_217 (by decide) (fun c217 => ?_) (fun c217 => ?_)
              · skip
                replace c217 : ¬ n = n := by rw [nI_eq (by omega) (by omega)] at c217; try exact c217
                exfalso
                exact absurd rfl c217
              · skip
                replace c217 : n = n := by rw [nI_eq (by omega) (by omega)] at c217; try exact c217
                refine lv_aload_n hx hb dL_runs_220 rfl (lv_at hl 8 rfl) ?_
                refine lv_bipush (v := (nI 9)) hx hb dL_runs_221 (by decide) ?_
                refine cl_VA (b := x0) (As := [.int (nI 9)]) (rest := []) F hK hA hP hD hS (c_X3_count hX) (cwV 1 hts gL_runs_X3_count rfl rfl rfl (by decide +kernel) ⟨Nat.le_of_ble_eq_true rfl, Nat.le_of_ble_eq_true rfl⟩) rfl rfl rfl hl.1 rfl (Nat.le_of_ble_eq_true rfl) ⟨Nat.zero_le _, Nat.zero_le _⟩ dL_runs_223 (fun r223 u223 H locs hw223 hP hD hS => ?_)
                try dsimp only at hw223 hP hD
                obtain rfl : r223 = (nI mx) := by rw [hw223, ctA_j (by decide)]; exact congrArg (fun q => nI q.2) hg1
                refine lv_iload hx hb dL_runs_226 (lv_at hl 4 rfl) ?_
                refine lv_icmp_ne (tgt := 255) hx hb dL_runs_228 (by decide) (fun c228 => ?_) (fun c228 => ?_)
                · skip
                  replace c228 : ¬ mx = mx := by rw [nI_eq (by omega) (by omega)] at c228; try exact c228
                  exfalso
                  exact absurd rfl c228
                · skip
                  replace c228 : mx = mx := by rw [nI_eq (by omega) (by omega)] at c228; try exact c228
                  refine lv_aload_n hx hb dL_runs_231 rfl (lv_at hl 8 rfl) ?_
                  refine lv_iload_n hx hb dL_runs_232 rfl (lv_at hl 7 rfl) ?_
                  refine cl_VA (b := x0) (As := [.int (nI (1 + j4))]) (rest := []) F hK hA hP hD hS (c_X3_runAt hX) (cwV 1 hts gL_runs_X3_runAt rfl rfl rfl (by decide +kernel) ⟨Nat.le_of_ble_eq_true rfl, Nat.le_of_ble_eq_true rfl⟩) rfl rfl rfl hl.1 rfl (Nat.le_of_ble_eq_true rfl) ⟨Nat.zero_le _, Nat.zero_le _⟩ dL_runs_233 (fun r233 u233 H locs hw233 hP hD hS => ?_)
                  try dsimp only at hw233 hP hD
                  obtain rfl : r233 = (oI o) := by rw [hw233, raA_m (by omega) (by omega), hra]
                  refine lv_iload hx hb dL_runs_236 (lv_at hl 2 rfl) ?_
                  refine lv_icmp_ne (tgt := 255) hx hb dL_runs_238 (by decide) (fun c238 => ?_) (fun c238 => ?_)
                  · skip
                    exfalso
                    exact absurd rfl c238
                  · skip
                    refine lv_aload_n hx hb dL_runs_241 rfl (lv_at hl 8 rfl) ?_
                    refine lv_iload_n hx hb dL_runs_242 rfl (lv_at hl 6 rfl) ?_
                    refine cl_VA (b := x0) (As := [.int (nI z)]) (rest := []) F hK hA hP hD hS (c_X3_placeFor hX) (cwV 1 hts gL_runs_X3_placeFor rfl rfl rfl (by decide +kernel) ⟨Nat.le_of_ble_eq_true rfl, Nat.le_of_ble_eq_true rfl⟩) rfl rfl rfl hl.1 rfl (Nat.le_of_ble_eq_true rfl) ⟨Nat.zero_le _, Nat.zero_le _⟩ dL_runs_243 (fun r243 u243 H locs hw243 hP hD hS => ?_)
                    try dsimp only at hw243 hP hD
                    obtain rfl : r243 = (oI o2) := by rw [hw243, pfA_z hz, hpl]
                    refine lv_iload hx hb dL_runs_246 (lv_at hl 1 rfl) ?_
                    refine lv_icmp_ne (tgt := 255) hx hb dL_runs_248 (by decide) (fun c248 => ?_) (fun c248 => ?_)
                    · skip
                      exfalso
                      exact absurd rfl c248
                    · skip
                      refine lv_iconst (v := (nI 1)) hx hb dL_runs_251 (by decide) ?_
                      refine lv_goto (tgt := 256) hx hb dL_runs_252 (by decide) ?_
                      exact RETN _ _ (nI 1) () _ _ dL_runs_256 rfl (rfl) hP hD hS
            · skip
              obtain ⟨q, rfl⟩ := dz_f hz c139
              rw [dz_s] at hl
              have hzq := dz_in hz hn2
              refine lv_iconst (v := (nI 1)) hx hb dL_runs_142 (by decide) ?_
              refine lv_istore (lv' := [(10, .int (nI 1)), (9, .int (nI (z * q))), (8, .int (oI o2)), (7, .int (oI o)), (6, .int (nI r)), (5, .int (nI mx)), (4, .int (nI n)), (3, .int (nI z)), (2, .int (nI (1 + j4))), (0, .ref x0), (1, .int q9)]) hx hb dL_runs_143 hl (by decide) rfl (fun ls hl => ?_)
              refine lv_iload hx hb dL_runs_145 (lv_at hl 1 rfl) ?_
              refine lv_istore (lv' := [(11, .int (nI (z * q))), (10, .int (nI 1)), (9, .int (nI (z * q))), (8, .int (oI o2)), (7, .int (oI o)), (6, .int (nI r)), (5, .int (nI mx)), (4, .int (nI n)), (3, .int (nI z)), (2, .int (nI (1 + j4))), (0, .ref x0), (1, .int q9)]) hx hb dL_runs_147 hl (by decide) rfl (fun ls hl => ?_)
              have LP149 : ∀ (nn : Nat) (fl : Nat) (t : Nat) (H : Heap) (locs : List Loc) (ls : Array Slot), (t ≤ z) → ((fl = 1 ∧ ∀ i, i < t → fr now (z * q + i) = true) ∨ (fl = 0 ∧ ∃ i, i < z ∧ fr now (z * q + i) = false)) → z - t < nn → va_P D vwCl (XW aa x0 x1 x2 pp tt cI cG cC cR VV TV tex pf tl on k) H → va_D A0 (XW aa x0 x1 x2 pp tt cI cG cC cR VV TV tex pf tl on k) → va_S A0 s0.heap H locs → lv_has ls 12 [(11, .int (nI (z * q + t))), (10, .int (nI fl)), (9, .int (nI (z * q))), (8, .int (oI o2)), (7, .int (oI o)), (6, .int (nI r)), (5, .int (nI mx)), (4, .int (nI n)), (3, .int (nI z)), (2, .int (nI (1 + j4))), (0, .ref x0), (1, .int q9)] → W P0 l e0 { frames := 4, cells := 0, slots := 0, locals := 93 } s0 m0 a0 b0 t0 c0 H locs 0 0 Q0 (F0 m0 149 ls []) := by
                intro nn
                induction nn with
                | zero => intro fl t H locs ls ht hfl hmu; exact absurd hmu (Nat.not_lt_zero _)
                | succ nn ih149 =>
                  intro fl t H locs ls ht hfl hmu149 hP hD hS hl
                  refine lv_iload hx hb dL_runs_149 (lv_at hl 0 rfl) ?_
                  refine lv_iload hx hb dL_runs_151 (lv_at hl 2 rfl) ?_
                  refine lv_iload_n hx hb dL_runs_153 rfl (lv_at hl 8 rfl) ?_
                  refine lv_iadd hx hb dL_runs_154 ?_
                  refine n_as (x' := nI ((z * q) + z)) (nI_add _ _) ?_
                  refine lv_icmp_ge (tgt := 186) hx hb dL_runs_155 (by decide) (fun c155 => ?_) (fun c155 => ?_)
                  · skip
                    replace c155 : ((z * q) + z) ≤ (z * q + t) := by rw [nI_leI (by omega) (by omega)] at c155; try exact c155
                    refine lv_iload hx hb dL_runs_186 (lv_at hl 1 rfl) ?_
                    refine lv_if_eq (tgt := 196) hx hb dL_runs_188 (by decide) (fun c188 => ?_) (fun c188 => ?_)
                    · skip
                      replace c188 : fl = 0 := by rw [show (0 : Int32) = nI 0 from rfl, nI_eq (by omega) (by omega)] at c188; try exact c188
                      obtain ⟨i9, hx1, hx2⟩ := (hfl.resolve_left (fun h => by omega)).2
                      refine lv_iload hx hb dL_runs_196 (lv_at hl 3 rfl) ?_
                      refine lv_istore (lv' := [(8, .int (oI o2)), (11, .int (nI (z * q + t))), (10, .int (nI fl)), (9, .int (nI (z * q))), (7, .int (oI o)), (6, .int (nI r)), (5, .int (nI mx)), (4, .int (nI n)), (3, .int (nI z)), (2, .int (nI (1 + j4))), (0, .ref x0), (1, .int q9)]) hx hb dL_runs_198 hl (by decide) rfl (fun ls hl => ?_)
                      refine lv_iload hx hb dL_runs_200 (lv_at hl 3 rfl) ?_
                      refine lv_iload_n hx hb dL_runs_202 rfl (lv_at hl 8 rfl) ?_
                      refine lv_isub hx hb dL_runs_203 ?_
                      refine n_as (x' := (dz z q)) (rfl) ?_
                      refine lv_istore (lv' := [(9, .int (dz z q)), (8, .int (oI o2)), (11, .int (nI (z * q + t))), (10, .int (nI fl)), (7, .int (oI o)), (6, .int (nI r)), (5, .int (nI mx)), (4, .int (nI n)), (3, .int (nI z)), (2, .int (nI (1 + j4))), (0, .ref x0), (1, .int q9)]) hx hb dL_runs_204 hl (by decide) rfl (fun ls hl => ?_)
                      refine lv_goto (tgt := 137) hx hb dL_runs_206 (by decide) ?_
                      exact ih137 o2 q _ _ _ (by omega) (by rw [ls1_no (by omega) (plq_n hx1 hx2)]; exact ho2) (by omega) hP hD hS (lv_sub hl [0, 1, 4, 5, 6, 7, 8, 9, 10, 11] rfl)
                    · skip
                      replace c188 : ¬ (fl = 0) := by rw [show (0 : Int32) = nI 0 from rfl, nI_eq (by omega) (by omega)] at c188; try exact c188
                      have hx3 : ∀ i, i < z → fr now (z * q + i) = true := fun i hi => (hfl.resolve_right (fun h => by omega)).2 i (by omega)
                      refine lv_iload hx hb dL_runs_191 (lv_at hl 2 rfl) ?_
                      refine lv_goto (tgt := 198) hx hb dL_runs_193 (by decide) ?_
                      refine lv_istore (lv' := [(8, .int (nI (z * q))), (11, .int (nI (z * q + t))), (10, .int (nI fl)), (9, .int (nI (z * q))), (7, .int (oI o)), (6, .int (nI r)), (5, .int (nI mx)), (4, .int (nI n)), (3, .int (nI z)), (2, .int (nI (1 + j4))), (0, .ref x0), (1, .int q9)]) hx hb dL_runs_198 hl (by decide) rfl (fun ls hl => ?_)
                      refine lv_iload hx hb dL_runs_200 (lv_at hl 3 rfl) ?_
                      refine lv_iload_n hx hb dL_runs_202 rfl (lv_at hl 8 rfl) ?_
                      refine lv_isub hx hb dL_runs_203 ?_
                      refine n_as (x' := (dz z q)) (rfl) ?_
                      refine lv_istore (lv' := [(9, .int (dz z q)), (8, .int (nI (z * q))), (11, .int (nI (z * q + t))), (10, .int (nI fl)), (7, .int (oI o)), (6, .int (nI r)), (5, .int (nI mx)), (4, .int (nI n)), (3, .int (nI z)), (2, .int (nI (1 + j4))), (0, .ref x0), (1, .int q9)]) hx hb dL_runs_204 hl (by decide) rfl (fun ls hl => ?_)
                      refine lv_goto (tgt := 137) hx hb dL_runs_206 (by decide) ?_
                      exact ih137 (some (z * q)) q _ _ _ (by omega) (by rw [ls1_yes (by omega) (plq_y hx3)]; rfl) (by omega) hP hD hS (lv_sub hl [0, 1, 4, 5, 6, 7, 8, 9, 10, 11] rfl)
                  · skip
                    replace c155 : ¬ (((z * q) + z) ≤ (z * q + t)) := by rw [nI_leI (by omega) (by omega)] at c155; try exact c155
                    refine lv_iload hx hb dL_runs_158 (lv_at hl 1 rfl) ?_
                    refine lv_if_eq (tgt := 177) hx hb dL_runs_160 (by decide) (fun c160 => ?_) (fun c160 => ?_)
                    · skip
                      replace c160 : fl = 0 := by rw [show (0 : Int32) = nI 0 from rfl, nI_eq (by omega) (by omega)] at c160; try exact c160
                      refine lv_iconst (v := (nI 0)) hx hb dL_runs_177 (by decide) ?_
                      refine lv_istore (lv' := [(10, .int (nI 0)), (11, .int (nI (z * q + t))), (9, .int (nI (z * q))), (8, .int (oI o2)), (7, .int (oI o)), (6, .int (nI r)), (5, .int (nI mx)), (4, .int (nI n)), (3, .int (nI z)), (2, .int (nI (1 + j4))), (0, .ref x0), (1, .int q9)]) hx hb dL_runs_178 hl (by decide) rfl (fun ls hl => ?_)
                      refine lv_iinc (v := (nI ((z * q + t) + 1))) (lv' := [(11, .int (nI ((z * q + t) + 1))), (10, .int (nI 0)), (9, .int (nI (z * q))), (8, .int (oI o2)), (7, .int (oI o)), (6, .int (nI r)), (5, .int (nI mx)), (4, .int (nI n)), (3, .int (nI z)), (2, .int (nI (1 + j4))), (0, .ref x0), (1, .int q9)]) hx hb dL_runs_180 hl (k := 1) rfl (n_inc1 _) (by decide) rfl (fun ls hl => ?_)
                      refine lv_goto (tgt := 149) hx hb dL_runs_183 (by decide) ?_
                      exact ih149 0 (t + 1) _ _ _ (by omega) (Or.inr ⟨rfl, (hfl.resolve_left (fun h => by omega)).2⟩) (by omega) hP hD hS (lv_sub hl [0, 1, 2, 3, 4, 5, 6, 7, 8, 9, 10, 11] rfl)
                    · skip
                      replace c160 : ¬ (fl = 0) := by rw [show (0 : Int32) = nI 0 from rfl, nI_eq (by omega) (by omega)] at c160; try exact c160
                      refine lv_aload_n hx hb dL_runs_163 rfl (lv_at hl 10 rfl) ?_
                      refine lv_iload hx hb dL_runs_164 (lv_at hl 0 rfl) ?_
                      refine lv_iconst (v := (nI 0)) hx hb dL_runs_166 (by decide) ?_
                      refine cl_VA (b := x0) (As := [.int (nI (z * q + t)), .int (nI 0)]) (rest := []) F hK hA hP hD hS (c_X3_slot hX) (cwV 2 hts gL_runs_X3_slot rfl rfl rfl (by decide +kernel) ⟨Nat.le_of_ble_eq_true rfl, Nat.le_of_ble_eq_true rfl⟩) rfl rfl rfl hl.1 rfl (Nat.le_of_ble_eq_true rfl) ⟨Nat.zero_le _, Nat.zero_le _⟩ dL_runs_167 (fun r167 u167 H locs hw167 hP hD hS => ?_)
                      try dsimp only at hw167 hP hD
                      obtain rfl : r167 = (now (z * q + t)) := hw167.trans (sl0 (by omega))
                      refine lv_if_ne (tgt := 177) hx hb dL_runs_170 (by decide) (fun c170 => ?_) (fun c170 => ?_)
                      · skip
                        replace c170 : ¬ (now (z * q + t)) = nI 0 := c170
                        refine lv_iconst (v := (nI 0)) hx hb dL_runs_177 (by decide) ?_
                        refine lv_istore (lv' := [(10, .int (nI 0)), (11, .int (nI (z * q + t))), (9, .int (nI (z * q))), (8, .int (oI o2)), (7, .int (oI o)), (6, .int (nI r)), (5, .int (nI mx)), (4, .int (nI n)), (3, .int (nI z)), (2, .int (nI (1 + j4))), (0, .ref x0), (1, .int q9)]) hx hb dL_runs_178 hl (by decide) rfl (fun ls hl => ?_)
                        refine lv_iinc (v := (nI ((z * q + t) + 1))) (lv' := [(11, .int (nI ((z * q + t) + 1))), (10, .int (nI 0)), (9, .int (nI (z * q))), (8, .int (oI o2)), (7, .int (oI o)), (6, .int (nI r)), (5, .int (nI mx)), (4, .int (nI n)), (3, .int (nI z)), (2, .int (nI (1 + j4))), (0, .ref x0), (1, .int q9)]) hx hb dL_runs_180 hl (k := 1) rfl (n_inc1 _) (by decide) rfl (fun ls hl => ?_)
                        refine lv_goto (tgt := 149) hx hb dL_runs_183 (by decide) ?_
                        exact ih149 0 (t + 1) _ _ _ (by omega) (Or.inr ⟨rfl, t, by omega, decide_eq_false c170⟩) (by omega) hP hD hS (lv_sub hl [0, 1, 2, 3, 4, 5, 6, 7, 8, 9, 10, 11] rfl)
                      · skip
                        replace c170 : (now (z * q + t)) = nI 0 := c170
                        refine lv_iconst (v := (nI 1)) hx hb dL_runs_173 (by decide) ?_
                        refine lv_goto (tgt := 178) hx hb dL_runs_174 (by decide) ?_
                        refine lv_istore (lv' := [(10, .int (nI 1)), (11, .int (nI (z * q + t))), (9, .int (nI (z * q))), (8, .int (oI o2)), (7, .int (oI o)), (6, .int (nI r)), (5, .int (nI mx)), (4, .int (nI n)), (3, .int (nI z)), (2, .int (nI (1 + j4))), (0, .ref x0), (1, .int q9)]) hx hb dL_runs_178 hl (by decide) rfl (fun ls hl => ?_)
                        refine lv_iinc (v := (nI ((z * q + t) + 1))) (lv' := [(11, .int (nI ((z * q + t) + 1))), (10, .int (nI 1)), (9, .int (nI (z * q))), (8, .int (oI o2)), (7, .int (oI o)), (6, .int (nI r)), (5, .int (nI mx)), (4, .int (nI n)), (3, .int (nI z)), (2, .int (nI (1 + j4))), (0, .ref x0), (1, .int q9)]) hx hb dL_runs_180 hl (k := 1) rfl (n_inc1 _) (by decide) rfl (fun ls hl => ?_)
                        refine lv_goto (tgt := 149) hx hb dL_runs_183 (by decide) ?_
                        exact ih149 1 (t + 1) _ _ _ (by omega) (Or.inl ⟨rfl, fun i hi => (Nat.lt_succ_iff_lt_or_eq.mp hi).elim (fun h => (hfl.resolve_right (fun h2 => by omega)).2 i h) (fun h => by rw [h]; exact decide_eq_true c170)⟩) (by omega) hP hD hS (lv_sub hl [0, 1, 2, 3, 4, 5, 6, 7, 8, 9, 10, 11] rfl)
              exact LP149 _ 1 0 _ _ _ (by omega) (Or.inl ⟨rfl, fun i hi => absurd hi (Nat.not_lt_zero i)⟩) (Nat.lt_succ_self _) hP hD hS (lv_sub hl [0, 1, 2, 3, 4, 5, 6, 7, 8, 9, 10, 11] rfl)
        rw [dz_0 hz] at hl
        exact LP137 _ none (320 / z) _ _ _ (Nat.le_refl _) (by rw [Nat.sub_self]; rfl) (Nat.lt_succ_self _) hP hD hS (lv_sub hl [0, 1, 2, 3, 4, 5, 6, 7, 8, 9] rfl)
      · skip
        replace c41 : ¬ (320 ≤ s) := by rw [nI_leI (by omega) (by omega)] at c41; try exact c41
        refine lv_aload_n hx hb dL_runs_44 rfl (lv_at hl 7 rfl) ?_
        refine lv_iload hx hb dL_runs_45 (lv_at hl 0 rfl) ?_
        refine lv_iconst (v := (nI 0)) hx hb dL_runs_47 (by decide) ?_
        refine cl_VA (b := x0) (As := [.int (nI s), .int (nI 0)]) (rest := []) F hK hA hP hD hS (c_X3_slot hX) (cwV 2 hts gL_runs_X3_slot rfl rfl rfl (by decide +kernel) ⟨Nat.le_of_ble_eq_true rfl, Nat.le_of_ble_eq_true rfl⟩) rfl rfl rfl hl.1 rfl (Nat.le_of_ble_eq_true rfl) ⟨Nat.zero_le _, Nat.zero_le _⟩ dL_runs_48 (fun r48 u48 H locs hw48 hP hD hS => ?_)
        try dsimp only at hw48 hP hD
        obtain rfl : r48 = (now s) := hw48.trans (sl0 (by omega))
        refine lv_if_ne (tgt := 61) hx hb dL_runs_51 (by decide) (fun c51 => ?_) (fun c51 => ?_)
        · skip
          replace c51 : ¬ (now s) = nI 0 := c51
          refine lv_iconst (v := (nI 0)) hx hb dL_runs_61 (by decide) ?_
          refine lv_istore (lv' := [(6, .int (nI 0)), (8, .int (nI s)), (7, .int (oI o)), (5, .int (nI mx)), (4, .int (nI n)), (3, .int (nI z)), (2, .int (nI (1 + j4))), (0, .ref x0), (1, .int q9)]) hx hb dL_runs_62 hl (by decide) rfl (fun ls hl => ?_)
          refine lv_iload hx hb dL_runs_64 (lv_at hl 4 rfl) ?_
          refine lv_iload hx hb dL_runs_66 (lv_at hl 0 rfl) ?_
          refine lv_iconst (v := (nI 1)) hx hb dL_runs_68 (by decide) ?_
          refine lv_icmp_ne (tgt := 76) hx hb dL_runs_69 (by decide) (fun c69 => ?_) (fun c69 => ?_)
          · skip
            refine lv_iconst (v := (nI 0)) hx hb dL_runs_76 (by decide) ?_
            refine lv_iadd hx hb dL_runs_77 ?_
            refine n_as (x' := nI (n + 0)) (nI_add _ _) ?_
            refine lv_istore (lv' := [(4, .int (nI (n + 0))), (6, .int (nI 0)), (8, .int (nI s)), (7, .int (oI o)), (5, .int (nI mx)), (3, .int (nI z)), (2, .int (nI (1 + j4))), (0, .ref x0), (1, .int q9)]) hx hb dL_runs_78 hl (by decide) rfl (fun ls hl => ?_)
            refine lv_iload hx hb dL_runs_80 (lv_at hl 1 rfl) ?_
            refine lv_iload hx hb dL_runs_82 (lv_at hl 4 rfl) ?_
            refine lv_icmp_le (tgt := 92) hx hb dL_runs_84 (by decide) (fun c84 => ?_) (fun c84 => ?_)
            · skip
              replace c84 : 0 ≤ mx := by rw [nI_leI (by omega) (by omega)] at c84; try exact c84
              refine lv_iload hx hb dL_runs_92 (lv_at hl 4 rfl) ?_
              refine lv_istore (lv' := [(5, .int (nI mx)), (4, .int (nI (n + 0))), (6, .int (nI 0)), (8, .int (nI s)), (7, .int (oI o)), (3, .int (nI z)), (2, .int (nI (1 + j4))), (0, .ref x0), (1, .int q9)]) hx hb dL_runs_94 hl (by decide) rfl (fun ls hl => ?_)
              refine lv_iload hx hb dL_runs_96 (lv_at hl 2 rfl) ?_
              refine lv_iload_n hx hb dL_runs_98 rfl (lv_at hl 6 rfl) ?_
              refine lv_icmp_ne (tgt := 116) hx hb dL_runs_99 (by decide) (fun c99 => ?_) (fun c99 => ?_)
              · skip
                replace c99 : ¬ 0 = (1 + j4) := by rw [nI_eq (by omega) (by omega)] at c99; try exact c99
                refine lv_iload hx hb dL_runs_116 (lv_at hl 4 rfl) ?_
                refine lv_istore (lv' := [(7, .int (oI o)), (5, .int (nI mx)), (4, .int (nI (n + 0))), (6, .int (nI 0)), (8, .int (nI s)), (3, .int (nI z)), (2, .int (nI (1 + j4))), (0, .ref x0), (1, .int q9)]) hx hb dL_runs_118 hl (by decide) rfl (fun ls hl => ?_)
                refine lv_iinc (v := (nI (s + 1))) (lv' := [(8, .int (nI (s + 1))), (7, .int (oI o)), (5, .int (nI mx)), (4, .int (nI (n + 0))), (6, .int (nI 0)), (3, .int (nI z)), (2, .int (nI (1 + j4))), (0, .ref x0), (1, .int q9)]) hx hb dL_runs_120 hl (k := 4) rfl (n_inc1 _) (by decide) rfl (fun ls hl => ?_)
                refine lv_goto (tgt := 36) hx hb dL_runs_123 (by decide) ?_
                exact ih36 (n + 0) mx 0 o (s + 1) _ _ _ (by omega) (by omega) (by omega) (by omega) (hg.trans (rsg_s (by omega) (if_neg c51).symm (by rw [if_neg (by decide)]) (by rw [if_neg (by omega)]))) (ho.elim (fun h => Or.inl h) (fun h => Or.inr ⟨h.1, h.2.trans (rn_no (by omega) (if_neg c51) (by omega))⟩)) (by omega) hP hD hS (lv_sub hl [0, 1, 4, 2, 3, 5, 6, 7, 8] rfl)
              · skip
                replace c99 : 0 = (1 + j4) := by rw [nI_eq (by omega) (by omega)] at c99; try exact c99
                exfalso
                omega
            · skip
              replace c84 : ¬ (0 ≤ mx) := by rw [nI_leI (by omega) (by omega)] at c84; try exact c84
              exfalso
              omega
          · skip
            exfalso
            exact absurd c69 (by decide)
        · skip
          replace c51 : (now s) = nI 0 := c51
          refine lv_iload hx hb dL_runs_54 (lv_at hl 2 rfl) ?_
          refine lv_iconst (v := (nI 1)) hx hb dL_runs_56 (by decide) ?_
          refine lv_iadd hx hb dL_runs_57 ?_
          refine n_as (x' := nI (r + 1)) (nI_add _ _) ?_
          refine lv_goto (tgt := 62) hx hb dL_runs_58 (by decide) ?_
          refine lv_istore (lv' := [(6, .int (nI (r + 1))), (8, .int (nI s)), (7, .int (oI o)), (5, .int (nI mx)), (4, .int (nI n)), (3, .int (nI z)), (2, .int (nI (1 + j4))), (0, .ref x0), (1, .int q9)]) hx hb dL_runs_62 hl (by decide) rfl (fun ls hl => ?_)
          refine lv_iload hx hb dL_runs_64 (lv_at hl 4 rfl) ?_
          refine lv_iload hx hb dL_runs_66 (lv_at hl 0 rfl) ?_
          refine lv_iconst (v := (nI 1)) hx hb dL_runs_68 (by decide) ?_
          refine lv_icmp_ne (tgt := 76) hx hb dL_runs_69 (by decide) (fun c69 => ?_) (fun c69 => ?_)
          · skip
            replace c69 : ¬ (r + 1) = 1 := by rw [nI_eq (by omega) (by omega)] at c69; try exact c69
            refine lv_iconst (v := (nI 0)) hx hb dL_runs_76 (by decide) ?_
            refine lv_iadd hx hb dL_runs_77 ?_
            refine n_as (x' := nI (n + 0)) (nI_add _ _) ?_
            refine lv_istore (lv' := [(4, .int (nI (n + 0))), (6, .int (nI (r + 1))), (8, .int (nI s)), (7, .int (oI o)), (5, .int (nI mx)), (3, .int (nI z)), (2, .int (nI (1 + j4))), (0, .ref x0), (1, .int q9)]) hx hb dL_runs_78 hl (by decide) rfl (fun ls hl => ?_)
            refine lv_iload hx hb dL_runs_80 (lv_at hl 1 rfl) ?_
            refine lv_iload hx hb dL_runs_82 (lv_at hl 4 rfl) ?_
            refine lv_icmp_le (tgt := 92) hx hb dL_runs_84 (by decide) (fun c84 => ?_) (fun c84 => ?_)
            · skip
              replace c84 : (r + 1) ≤ mx := by rw [nI_leI (by omega) (by omega)] at c84; try exact c84
              refine lv_iload hx hb dL_runs_92 (lv_at hl 4 rfl) ?_
              refine lv_istore (lv' := [(5, .int (nI mx)), (4, .int (nI (n + 0))), (6, .int (nI (r + 1))), (8, .int (nI s)), (7, .int (oI o)), (3, .int (nI z)), (2, .int (nI (1 + j4))), (0, .ref x0), (1, .int q9)]) hx hb dL_runs_94 hl (by decide) rfl (fun ls hl => ?_)
              refine lv_iload hx hb dL_runs_96 (lv_at hl 2 rfl) ?_
              refine lv_iload_n hx hb dL_runs_98 rfl (lv_at hl 6 rfl) ?_
              refine lv_icmp_ne (tgt := 116) hx hb dL_runs_99 (by decide) (fun c99 => ?_) (fun c99 => ?_)
              · skip
                replace c99 : ¬ (r + 1) = (1 + j4) := by rw [nI_eq (by omega) (by omega)] at c99; try exact c99
                refine lv_iload hx hb dL_runs_116 (lv_at hl 4 rfl) ?_
                refine lv_istore (lv' := [(7, .int (oI o)), (5, .int (nI mx)), (4, .int (nI (n + 0))), (6, .int (nI (r + 1))), (8, .int (nI s)), (3, .int (nI z)), (2, .int (nI (1 + j4))), (0, .ref x0), (1, .int q9)]) hx hb dL_runs_118 hl (by decide) rfl (fun ls hl => ?_)
                refine lv_iinc (v := (nI (s + 1))) (lv' := [(8, .int (nI (s + 1))), (7, .int (oI o)), (5, .int (nI mx)), (4, .int (nI (n + 0))), (6, .int (nI (r + 1))), (3, .int (nI z)), (2, .int (nI (1 + j4))), (0, .ref x0), (1, .int q9)]) hx hb dL_runs_120 hl (k := 4) rfl (n_inc1 _) (by decide) rfl (fun ls hl => ?_)
                refine lv_goto (tgt := 36) hx hb dL_runs_123 (by decide) ?_
                exact ih36 (n + 0) mx (r + 1) o (s + 1) _ _ _ (by omega) (by omega) (by omega) (by omega) (hg.trans (rsg_s (by omega) (if_pos c51).symm (by rw [if_neg c69]) (by rw [if_neg (by omega)]))) (ho.elim (fun h => Or.inl h) (fun h => Or.inr ⟨h.1, h.2.trans (rn_no (by omega) (if_pos c51) (by omega))⟩)) (by omega) hP hD hS (lv_sub hl [0, 1, 4, 2, 3, 5, 6, 7, 8] rfl)
              · skip
                replace c99 : (r + 1) = (1 + j4) := by rw [nI_eq (by omega) (by omega)] at c99; try exact c99
                rcases ho with ⟨a, rfl, ha, hra⟩ | ⟨rfl, hra⟩
                ·
                  skip
                  rw [show oI (some a) = nI a from rfl] at hl
                  refine lv_iload hx hb dL_runs_102 (lv_at hl 4 rfl) ?_
                  refine lv_if_ge (tgt := 116) hx hb dL_runs_104 (by decide) (fun c104 => ?_) (fun c104 => ?_)
                  · skip
                    replace c104 : 0 ≤ a := by rw [show (0 : Int32) = nI 0 from rfl, nI_leI (by omega) (by omega)] at c104; try exact c104
                    refine lv_iload hx hb dL_runs_116 (lv_at hl 4 rfl) ?_
                    refine lv_istore (lv' := [(7, .int (nI a)), (5, .int (nI mx)), (4, .int (nI (n + 0))), (6, .int (nI (r + 1))), (8, .int (nI s)), (3, .int (nI z)), (2, .int (nI (1 + j4))), (0, .ref x0), (1, .int q9)]) hx hb dL_runs_118 hl (by decide) rfl (fun ls hl => ?_)
                    refine lv_iinc (v := (nI (s + 1))) (lv' := [(8, .int (nI (s + 1))), (7, .int (nI a)), (5, .int (nI mx)), (4, .int (nI (n + 0))), (6, .int (nI (r + 1))), (3, .int (nI z)), (2, .int (nI (1 + j4))), (0, .ref x0), (1, .int q9)]) hx hb dL_runs_120 hl (k := 4) rfl (n_inc1 _) (by decide) rfl (fun ls hl => ?_)
                    refine lv_goto (tgt := 36) hx hb dL_runs_123 (by decide) ?_
                    exact ih36 (n + 0) mx (r + 1) (some a) (s + 1) _ _ _ (by omega) (by omega) (by omega) (by omega) (hg.trans (rsg_s (by omega) (if_pos c51).symm (by rw [if_neg c69]) (by rw [if_neg (by omega)]))) (Or.inl ⟨a, rfl, ha, hra⟩) (by omega) hP hD hS (lv_sub hl [0, 1, 4, 2, 3, 5, 6, 7, 8] rfl)
                  · skip
                    replace c104 : ¬ (0 ≤ a) := by rw [show (0 : Int32) = nI 0 from rfl, nI_leI (by omega) (by omega)] at c104; try exact c104
                    exfalso
                    omega
                ·
                  skip
                  rw [show oI none = -9 from rfl] at hl
                  refine lv_iload hx hb dL_runs_102 (lv_at hl 4 rfl) ?_
                  refine lv_if_ge (tgt := 116) hx hb dL_runs_104 (by decide) (fun c104 => ?_) (fun c104 => ?_)
                  · skip
                    exfalso
                    exact absurd c104 (by decide)
                  · skip
                    refine lv_iload hx hb dL_runs_107 (lv_at hl 3 rfl) ?_
                    refine lv_iload_n hx hb dL_runs_109 rfl (lv_at hl 6 rfl) ?_
                    refine lv_isub hx hb dL_runs_110 ?_
                    refine lv_iconst (v := (nI 1)) hx hb dL_runs_111 (by decide) ?_
                    refine lv_iadd hx hb dL_runs_112 ?_
                    refine n_as (x' := (nI (s + 1 - (1 + j4)))) (subadd (by omega)) ?_
                    refine lv_goto (tgt := 118) hx hb dL_runs_113 (by decide) ?_
                    refine lv_istore (lv' := [(7, .int (nI (s + 1 - (1 + j4)))), (5, .int (nI mx)), (4, .int (nI (n + 0))), (6, .int (nI (r + 1))), (8, .int (nI s)), (3, .int (nI z)), (2, .int (nI (1 + j4))), (0, .ref x0), (1, .int q9)]) hx hb dL_runs_118 hl (by decide) rfl (fun ls hl => ?_)
                    refine lv_iinc (v := (nI (s + 1))) (lv' := [(8, .int (nI (s + 1))), (7, .int (nI (s + 1 - (1 + j4)))), (5, .int (nI mx)), (4, .int (nI (n + 0))), (6, .int (nI (r + 1))), (3, .int (nI z)), (2, .int (nI (1 + j4))), (0, .ref x0), (1, .int q9)]) hx hb dL_runs_120 hl (k := 4) rfl (n_inc1 _) (by decide) rfl (fun ls hl => ?_)
                    refine lv_goto (tgt := 36) hx hb dL_runs_123 (by decide) ?_
                    exact ih36 (n + 0) mx (r + 1) (some (s + 1 - (1 + j4))) (s + 1) _ _ _ (by omega) (by omega) (by omega) (by omega) (hg.trans (rsg_s (by omega) (if_pos c51).symm (by rw [if_neg c69]) (by rw [if_neg (by omega)]))) (Or.inl ⟨_, rfl, by omega, hra.trans (rn_yes (by omega) (if_pos c51) (by omega))⟩) (by omega) hP hD hS (lv_sub hl [0, 1, 4, 2, 3, 5, 6, 7, 8] rfl)
            · skip
              replace c84 : ¬ ((r + 1) ≤ mx) := by rw [nI_leI (by omega) (by omega)] at c84; try exact c84
              refine lv_iload hx hb dL_runs_87 (lv_at hl 1 rfl) ?_
              refine lv_goto (tgt := 94) hx hb dL_runs_89 (by decide) ?_
              refine lv_istore (lv' := [(5, .int (nI (r + 1))), (4, .int (nI (n + 0))), (6, .int (nI (r + 1))), (8, .int (nI s)), (7, .int (oI o)), (3, .int (nI z)), (2, .int (nI (1 + j4))), (0, .ref x0), (1, .int q9)]) hx hb dL_runs_94 hl (by decide) rfl (fun ls hl => ?_)
              refine lv_iload hx hb dL_runs_96 (lv_at hl 2 rfl) ?_
              refine lv_iload_n hx hb dL_runs_98 rfl (lv_at hl 6 rfl) ?_
              refine lv_icmp_ne (tgt := 116) hx hb dL_runs_99 (by decide) (fun c99 => ?_) (fun c99 => ?_)
              · skip
                replace c99 : ¬ (r + 1) = (1 + j4) := by rw [nI_eq (by omega) (by omega)] at c99; try exact c99
                refine lv_iload hx hb dL_runs_116 (lv_at hl 4 rfl) ?_
                refine lv_istore (lv' := [(7, .int (oI o)), (5, .int (nI (r + 1))), (4, .int (nI (n + 0))), (6, .int (nI (r + 1))), (8, .int (nI s)), (3, .int (nI z)), (2, .int (nI (1 + j4))), (0, .ref x0), (1, .int q9)]) hx hb dL_runs_118 hl (by decide) rfl (fun ls hl => ?_)
                refine lv_iinc (v := (nI (s + 1))) (lv' := [(8, .int (nI (s + 1))), (7, .int (oI o)), (5, .int (nI (r + 1))), (4, .int (nI (n + 0))), (6, .int (nI (r + 1))), (3, .int (nI z)), (2, .int (nI (1 + j4))), (0, .ref x0), (1, .int q9)]) hx hb dL_runs_120 hl (k := 4) rfl (n_inc1 _) (by decide) rfl (fun ls hl => ?_)
                refine lv_goto (tgt := 36) hx hb dL_runs_123 (by decide) ?_
                exact ih36 (n + 0) (r + 1) (r + 1) o (s + 1) _ _ _ (by omega) (by omega) (by omega) (by omega) (hg.trans (rsg_s (by omega) (if_pos c51).symm (by rw [if_neg c69]) (by rw [if_pos (by omega)]))) (ho.elim (fun h => Or.inl h) (fun h => Or.inr ⟨h.1, h.2.trans (rn_no (by omega) (if_pos c51) (by omega))⟩)) (by omega) hP hD hS (lv_sub hl [0, 1, 4, 2, 3, 5, 6, 7, 8] rfl)
              · skip
                replace c99 : (r + 1) = (1 + j4) := by rw [nI_eq (by omega) (by omega)] at c99; try exact c99
                rcases ho with ⟨a, rfl, ha, hra⟩ | ⟨rfl, hra⟩
                ·
                  skip
                  rw [show oI (some a) = nI a from rfl] at hl
                  refine lv_iload hx hb dL_runs_102 (lv_at hl 4 rfl) ?_
                  refine lv_if_ge (tgt := 116) hx hb dL_runs_104 (by decide) (fun c104 => ?_) (fun c104 => ?_)
                  · skip
                    replace c104 : 0 ≤ a := by rw [show (0 : Int32) = nI 0 from rfl, nI_leI (by omega) (by omega)] at c104; try exact c104
                    refine lv_iload hx hb dL_runs_116 (lv_at hl 4 rfl) ?_
                    refine lv_istore (lv' := [(7, .int (nI a)), (5, .int (nI (r + 1))), (4, .int (nI (n + 0))), (6, .int (nI (r + 1))), (8, .int (nI s)), (3, .int (nI z)), (2, .int (nI (1 + j4))), (0, .ref x0), (1, .int q9)]) hx hb dL_runs_118 hl (by decide) rfl (fun ls hl => ?_)
                    refine lv_iinc (v := (nI (s + 1))) (lv' := [(8, .int (nI (s + 1))), (7, .int (nI a)), (5, .int (nI (r + 1))), (4, .int (nI (n + 0))), (6, .int (nI (r + 1))), (3, .int (nI z)), (2, .int (nI (1 + j4))), (0, .ref x0), (1, .int q9)]) hx hb dL_runs_120 hl (k := 4) rfl (n_inc1 _) (by decide) rfl (fun ls hl => ?_)
                    refine lv_goto (tgt := 36) hx hb dL_runs_123 (by decide) ?_
                    exact ih36 (n + 0) (r + 1) (r + 1) (some a) (s + 1) _ _ _ (by omega) (by omega) (by omega) (by omega) (hg.trans (rsg_s (by omega) (if_pos c51).symm (by rw [if_neg c69]) (by rw [if_pos (by omega)]))) (Or.inl ⟨a, rfl, ha, hra⟩) (by omega) hP hD hS (lv_sub hl [0, 1, 4, 2, 3, 5, 6, 7, 8] rfl)
                  · skip
                    replace c104 : ¬ (0 ≤ a) := by rw [show (0 : Int32) = nI 0 from rfl, nI_leI (by omega) (by omega)] at c104; try exact c104
                    exfalso
                    omega
                ·
                  skip
                  rw [show oI none = -9 from rfl] at hl
                  refine lv_iload hx hb dL_runs_102 (lv_at hl 4 rfl) ?_
                  refine lv_if_ge (tgt := 116) hx hb dL_runs_104 (by decide) (fun c104 => ?_) (fun c104 => ?_)
                  · skip
                    exfalso
                    exact absurd c104 (by decide)
                  · skip
                    refine lv_iload hx hb dL_runs_107 (lv_at hl 3 rfl) ?_
                    refine lv_iload_n hx hb dL_runs_109 rfl (lv_at hl 6 rfl) ?_
                    refine lv_isub hx hb dL_runs_110 ?_
                    refine lv_iconst (v := (nI 1)) hx hb dL_runs_111 (by decide) ?_
                    refine lv_iadd hx hb dL_runs_112 ?_
                    refine n_as (x' := (nI (s + 1 - (1 + j4)))) (subadd (by omega)) ?_
                    refine lv_goto (tgt := 118) hx hb dL_runs_113 (by decide) ?_
                    refine lv_istore (lv' := [(7, .int (nI (s + 1 - (1 + j4)))), (5, .int (nI (r + 1))), (4, .int (nI (n + 0))), (6, .int (nI (r + 1))), (8, .int (nI s)), (3, .int (nI z)), (2, .int (nI (1 + j4))), (0, .ref x0), (1, .int q9)]) hx hb dL_runs_118 hl (by decide) rfl (fun ls hl => ?_)
                    refine lv_iinc (v := (nI (s + 1))) (lv' := [(8, .int (nI (s + 1))), (7, .int (nI (s + 1 - (1 + j4)))), (5, .int (nI (r + 1))), (4, .int (nI (n + 0))), (6, .int (nI (r + 1))), (3, .int (nI z)), (2, .int (nI (1 + j4))), (0, .ref x0), (1, .int q9)]) hx hb dL_runs_120 hl (k := 4) rfl (n_inc1 _) (by decide) rfl (fun ls hl => ?_)
                    refine lv_goto (tgt := 36) hx hb dL_runs_123 (by decide) ?_
                    exact ih36 (n + 0) (r + 1) (r + 1) (some (s + 1 - (1 + j4))) (s + 1) _ _ _ (by omega) (by omega) (by omega) (by omega) (hg.trans (rsg_s (by omega) (if_pos c51).symm (by rw [if_neg c69]) (by rw [if_pos (by omega)]))) (Or.inl ⟨_, rfl, by omega, hra.trans (rn_yes (by omega) (if_pos c51) (by omega))⟩) (by omega) hP hD hS (lv_sub hl [0, 1, 4, 2, 3, 5, 6, 7, 8] rfl)
          · skip
            replace c69 : (r + 1) = 1 := by rw [nI_eq (by omega) (by omega)] at c69; try exact c69
            refine lv_iconst (v := (nI 1)) hx hb dL_runs_72 (by decide) ?_
            refine lv_goto (tgt := 77) hx hb dL_runs_73 (by decide) ?_
            refine lv_iadd hx hb dL_runs_77 ?_
            refine n_as (x' := nI (n + 1)) (nI_add _ _) ?_
            refine lv_istore (lv' := [(4, .int (nI (n + 1))), (6, .int (nI (r + 1))), (8, .int (nI s)), (7, .int (oI o)), (5, .int (nI mx)), (3, .int (nI z)), (2, .int (nI (1 + j4))), (0, .ref x0), (1, .int q9)]) hx hb dL_runs_78 hl (by decide) rfl (fun ls hl => ?_)
            refine lv_iload hx hb dL_runs_80 (lv_at hl 1 rfl) ?_
            refine lv_iload hx hb dL_runs_82 (lv_at hl 4 rfl) ?_
            refine lv_icmp_le (tgt := 92) hx hb dL_runs_84 (by decide) (fun c84 => ?_) (fun c84 => ?_)
            · skip
              replace c84 : (r + 1) ≤ mx := by rw [nI_leI (by omega) (by omega)] at c84; try exact c84
              refine lv_iload hx hb dL_runs_92 (lv_at hl 4 rfl) ?_
              refine lv_istore (lv' := [(5, .int (nI mx)), (4, .int (nI (n + 1))), (6, .int (nI (r + 1))), (8, .int (nI s)), (7, .int (oI o)), (3, .int (nI z)), (2, .int (nI (1 + j4))), (0, .ref x0), (1, .int q9)]) hx hb dL_runs_94 hl (by decide) rfl (fun ls hl => ?_)
              refine lv_iload hx hb dL_runs_96 (lv_at hl 2 rfl) ?_
              refine lv_iload_n hx hb dL_runs_98 rfl (lv_at hl 6 rfl) ?_
              refine lv_icmp_ne (tgt := 116) hx hb dL_runs_99 (by decide) (fun c99 => ?_) (fun c99 => ?_)
              · skip
                replace c99 : ¬ (r + 1) = (1 + j4) := by rw [nI_eq (by omega) (by omega)] at c99; try exact c99
                refine lv_iload hx hb dL_runs_116 (lv_at hl 4 rfl) ?_
                refine lv_istore (lv' := [(7, .int (oI o)), (5, .int (nI mx)), (4, .int (nI (n + 1))), (6, .int (nI (r + 1))), (8, .int (nI s)), (3, .int (nI z)), (2, .int (nI (1 + j4))), (0, .ref x0), (1, .int q9)]) hx hb dL_runs_118 hl (by decide) rfl (fun ls hl => ?_)
                refine lv_iinc (v := (nI (s + 1))) (lv' := [(8, .int (nI (s + 1))), (7, .int (oI o)), (5, .int (nI mx)), (4, .int (nI (n + 1))), (6, .int (nI (r + 1))), (3, .int (nI z)), (2, .int (nI (1 + j4))), (0, .ref x0), (1, .int q9)]) hx hb dL_runs_120 hl (k := 4) rfl (n_inc1 _) (by decide) rfl (fun ls hl => ?_)
                refine lv_goto (tgt := 36) hx hb dL_runs_123 (by decide) ?_
                exact ih36 (n + 1) mx (r + 1) o (s + 1) _ _ _ (by omega) (by omega) (by omega) (by omega) (hg.trans (rsg_s (by omega) (if_pos c51).symm (by rw [if_pos c69]) (by rw [if_neg (by omega)]))) (ho.elim (fun h => Or.inl h) (fun h => Or.inr ⟨h.1, h.2.trans (rn_no (by omega) (if_pos c51) (by omega))⟩)) (by omega) hP hD hS (lv_sub hl [0, 1, 4, 2, 3, 5, 6, 7, 8] rfl)
              · skip
                replace c99 : (r + 1) = (1 + j4) := by rw [nI_eq (by omega) (by omega)] at c99; try exact c99
                rcases ho with ⟨a, rfl, ha, hra⟩ | ⟨rfl, hra⟩
                ·
                  skip
                  rw [show oI (some a) = nI a from rfl] at hl
                  refine lv_iload hx hb dL_runs_102 (lv_at hl 4 rfl) ?_
                  refine lv_if_ge (tgt := 116) hx hb dL_runs_104 (by decide) (fun c104 => ?_) (fun c104 => ?_)
                  · skip
                    replace c104 : 0 ≤ a := by rw [show (0 : Int32) = nI 0 from rfl, nI_leI (by omega) (by omega)] at c104; try exact c104
                    refine lv_iload hx hb dL_runs_116 (lv_at hl 4 rfl) ?_
                    refine lv_istore (lv' := [(7, .int (nI a)), (5, .int (nI mx)), (4, .int (nI (n + 1))), (6, .int (nI (r + 1))), (8, .int (nI s)), (3, .int (nI z)), (2, .int (nI (1 + j4))), (0, .ref x0), (1, .int q9)]) hx hb dL_runs_118 hl (by decide) rfl (fun ls hl => ?_)
                    refine lv_iinc (v := (nI (s + 1))) (lv' := [(8, .int (nI (s + 1))), (7, .int (nI a)), (5, .int (nI mx)), (4, .int (nI (n + 1))), (6, .int (nI (r + 1))), (3, .int (nI z)), (2, .int (nI (1 + j4))), (0, .ref x0), (1, .int q9)]) hx hb dL_runs_120 hl (k := 4) rfl (n_inc1 _) (by decide) rfl (fun ls hl => ?_)
                    refine lv_goto (tgt := 36) hx hb dL_runs_123 (by decide) ?_
                    exact ih36 (n + 1) mx (r + 1) (some a) (s + 1) _ _ _ (by omega) (by omega) (by omega) (by omega) (hg.trans (rsg_s (by omega) (if_pos c51).symm (by rw [if_pos c69]) (by rw [if_neg (by omega)]))) (Or.inl ⟨a, rfl, ha, hra⟩) (by omega) hP hD hS (lv_sub hl [0, 1, 4, 2, 3, 5, 6, 7, 8] rfl)
                  · skip
                    replace c104 : ¬ (0 ≤ a) := by rw [show (0 : Int32) = nI 0 from rfl, nI_leI (by omega) (by omega)] at c104; try exact c104
                    exfalso
                    omega
                ·
                  skip
                  rw [show oI none = -9 from rfl] at hl
                  refine lv_iload hx hb dL_runs_102 (lv_at hl 4 rfl) ?_
                  refine lv_if_ge (tgt := 116) hx hb dL_runs_104 (by decide) (fun c104 => ?_) (fun c104 => ?_)
                  · skip
                    exfalso
                    exact absurd c104 (by decide)
                  · skip
                    refine lv_iload hx hb dL_runs_107 (lv_at hl 3 rfl) ?_
                    refine lv_iload_n hx hb dL_runs_109 rfl (lv_at hl 6 rfl) ?_
                    refine lv_isub hx hb dL_runs_110 ?_
                    refine lv_iconst (v := (nI 1)) hx hb dL_runs_111 (by decide) ?_
                    refine lv_iadd hx hb dL_runs_112 ?_
                    refine n_as (x' := (nI (s + 1 - (1 + j4)))) (subadd (by omega)) ?_
                    refine lv_goto (tgt := 118) hx hb dL_runs_113 (by decide) ?_
                    refine lv_istore (lv' := [(7, .int (nI (s + 1 - (1 + j4)))), (5, .int (nI mx)), (4, .int (nI (n + 1))), (6, .int (nI (r + 1))), (8, .int (nI s)), (3, .int (nI z)), (2, .int (nI (1 + j4))), (0, .ref x0), (1, .int q9)]) hx hb dL_runs_118 hl (by decide) rfl (fun ls hl => ?_)
                    refine lv_iinc (v := (nI (s + 1))) (lv' := [(8, .int (nI (s + 1))), (7, .int (nI (s + 1 - (1 + j4)))), (5, .int (nI mx)), (4, .int (nI (n + 1))), (6, .int (nI (r + 1))), (3, .int (nI z)), (2, .int (nI (1 + j4))), (0, .ref x0), (1, .int q9)]) hx hb dL_runs_120 hl (k := 4) rfl (n_inc1 _) (by decide) rfl (fun ls hl => ?_)
                    refine lv_goto (tgt := 36) hx hb dL_runs_123 (by decide) ?_
                    exact ih36 (n + 1) mx (r + 1) (some (s + 1 - (1 + j4))) (s + 1) _ _ _ (by omega) (by omega) (by omega) (by omega) (hg.trans (rsg_s (by omega) (if_pos c51).symm (by rw [if_pos c69]) (by rw [if_neg (by omega)]))) (Or.inl ⟨_, rfl, by omega, hra.trans (rn_yes (by omega) (if_pos c51) (by omega))⟩) (by omega) hP hD hS (lv_sub hl [0, 1, 4, 2, 3, 5, 6, 7, 8] rfl)
            · skip
              replace c84 : ¬ ((r + 1) ≤ mx) := by rw [nI_leI (by omega) (by omega)] at c84; try exact c84
              refine lv_iload hx hb dL_runs_87 (lv_at hl 1 rfl) ?_
              refine lv_goto (tgt := 94) hx hb dL_runs_89 (by decide) ?_
              refine lv_istore (lv' := [(5, .int (nI (r + 1))), (4, .int (nI (n + 1))), (6, .int (nI (r + 1))), (8, .int (nI s)), (7, .int (oI o)), (3, .int (nI z)), (2, .int (nI (1 + j4))), (0, .ref x0), (1, .int q9)]) hx hb dL_runs_94 hl (by decide) rfl (fun ls hl => ?_)
              refine lv_iload hx hb dL_runs_96 (lv_at hl 2 rfl) ?_
              refine lv_iload_n hx hb dL_runs_98 rfl (lv_at hl 6 rfl) ?_
              refine lv_icmp_ne (tgt := 116) hx hb dL_runs_99 (by decide) (fun c99 => ?_) (fun c99 => ?_)
              · skip
                replace c99 : ¬ (r + 1) = (1 + j4) := by rw [nI_eq (by omega) (by omega)] at c99; try exact c99
                refine lv_iload hx hb dL_runs_116 (lv_at hl 4 rfl) ?_
                refine lv_istore (lv' := [(7, .int (oI o)), (5, .int (nI (r + 1))), (4, .int (nI (n + 1))), (6, .int (nI (r + 1))), (8, .int (nI s)), (3, .int (nI z)), (2, .int (nI (1 + j4))), (0, .ref x0), (1, .int q9)]) hx hb dL_runs_118 hl (by decide) rfl (fun ls hl => ?_)
                refine lv_iinc (v := (nI (s + 1))) (lv' := [(8, .int (nI (s + 1))), (7, .int (oI o)), (5, .int (nI (r + 1))), (4, .int (nI (n + 1))), (6, .int (nI (r + 1))), (3, .int (nI z)), (2, .int (nI (1 + j4))), (0, .ref x0), (1, .int q9)]) hx hb dL_runs_120 hl (k := 4) rfl (n_inc1 _) (by decide) rfl (fun ls hl => ?_)
                refine lv_goto (tgt := 36) hx hb dL_runs_123 (by decide) ?_
                exact ih36 (n + 1) (r + 1) (r + 1) o (s + 1) _ _ _ (by omega) (by omega) (by omega) (by omega) (hg.trans (rsg_s (by omega) (if_pos c51).symm (by rw [if_pos c69]) (by rw [if_pos (by omega)]))) (ho.elim (fun h => Or.inl h) (fun h => Or.inr ⟨h.1, h.2.trans (rn_no (by omega) (if_pos c51) (by omega))⟩)) (by omega) hP hD hS (lv_sub hl [0, 1, 4, 2, 3, 5, 6, 7, 8] rfl)
              · skip
                replace c99 : (r + 1) = (1 + j4) := by rw [nI_eq (by omega) (by omega)] at c99; try exact c99
                rcases ho with ⟨a, rfl, ha, hra⟩ | ⟨rfl, hra⟩
                ·
                  skip
                  rw [show oI (some a) = nI a from rfl] at hl
                  refine lv_iload hx hb dL_runs_102 (lv_at hl 4 rfl) ?_
                  refine lv_if_ge (tgt := 116) hx hb dL_runs_104 (by decide) (fun c104 => ?_) (fun c104 => ?_)
                  · skip
                    replace c104 : 0 ≤ a := by rw [show (0 : Int32) = nI 0 from rfl, nI_leI (by omega) (by omega)] at c104; try exact c104
                    refine lv_iload hx hb dL_runs_116 (lv_at hl 4 rfl) ?_
                    refine lv_istore (lv' := [(7, .int (nI a)), (5, .int (nI (r + 1))), (4, .int (nI (n + 1))), (6, .int (nI (r + 1))), (8, .int (nI s)), (3, .int (nI z)), (2, .int (nI (1 + j4))), (0, .ref x0), (1, .int q9)]) hx hb dL_runs_118 hl (by decide) rfl (fun ls hl => ?_)
                    refine lv_iinc (v := (nI (s + 1))) (lv' := [(8, .int (nI (s + 1))), (7, .int (nI a)), (5, .int (nI (r + 1))), (4, .int (nI (n + 1))), (6, .int (nI (r + 1))), (3, .int (nI z)), (2, .int (nI (1 + j4))), (0, .ref x0), (1, .int q9)]) hx hb dL_runs_120 hl (k := 4) rfl (n_inc1 _) (by decide) rfl (fun ls hl => ?_)
                    refine lv_goto (tgt := 36) hx hb dL_runs_123 (by decide) ?_
                    exact ih36 (n + 1) (r + 1) (r + 1) (some a) (s + 1) _ _ _ (by omega) (by omega) (by omega) (by omega) (hg.trans (rsg_s (by omega) (if_pos c51).symm (by rw [if_pos c69]) (by rw [if_pos (by omega)]))) (Or.inl ⟨a, rfl, ha, hra⟩) (by omega) hP hD hS (lv_sub hl [0, 1, 4, 2, 3, 5, 6, 7, 8] rfl)
                  · skip
                    replace c104 : ¬ (0 ≤ a) := by rw [show (0 : Int32) = nI 0 from rfl, nI_leI (by omega) (by omega)] at c104; try exact c104
                    exfalso
                    omega
                ·
                  skip
                  rw [show oI none = -9 from rfl] at hl
                  refine lv_iload hx hb dL_runs_102 (lv_at hl 4 rfl) ?_
                  refine lv_if_ge (tgt := 116) hx hb dL_runs_104 (by decide) (fun c104 => ?_) (fun c104 => ?_)
                  · skip
                    exfalso
                    exact absurd c104 (by decide)
                  · skip
                    refine lv_iload hx hb dL_runs_107 (lv_at hl 3 rfl) ?_
                    refine lv_iload_n hx hb dL_runs_109 rfl (lv_at hl 6 rfl) ?_
                    refine lv_isub hx hb dL_runs_110 ?_
                    refine lv_iconst (v := (nI 1)) hx hb dL_runs_111 (by decide) ?_
                    refine lv_iadd hx hb dL_runs_112 ?_
                    refine n_as (x' := (nI (s + 1 - (1 + j4)))) (subadd (by omega)) ?_
                    refine lv_goto (tgt := 118) hx hb dL_runs_113 (by decide) ?_
                    refine lv_istore (lv' := [(7, .int (nI (s + 1 - (1 + j4)))), (5, .int (nI (r + 1))), (4, .int (nI (n + 1))), (6, .int (nI (r + 1))), (8, .int (nI s)), (3, .int (nI z)), (2, .int (nI (1 + j4))), (0, .ref x0), (1, .int q9)]) hx hb dL_runs_118 hl (by decide) rfl (fun ls hl => ?_)
                    refine lv_iinc (v := (nI (s + 1))) (lv' := [(8, .int (nI (s + 1))), (7, .int (nI (s + 1 - (1 + j4)))), (5, .int (nI (r + 1))), (4, .int (nI (n + 1))), (6, .int (nI (r + 1))), (3, .int (nI z)), (2, .int (nI (1 + j4))), (0, .ref x0), (1, .int q9)]) hx hb dL_runs_120 hl (k := 4) rfl (n_inc1 _) (by decide) rfl (fun ls hl => ?_)
                    refine lv_goto (tgt := 36) hx hb dL_runs_123 (by decide) ?_
                    exact ih36 (n + 1) (r + 1) (r + 1) (some (s + 1 - (1 + j4))) (s + 1) _ _ _ (by omega) (by omega) (by omega) (by omega) (hg.trans (rsg_s (by omega) (if_pos c51).symm (by rw [if_pos c69]) (by rw [if_pos (by omega)]))) (Or.inl ⟨_, rfl, by omega, hra.trans (rn_yes (by omega) (if_pos c51) (by omega))⟩) (by omega) hP hD hS (lv_sub hl [0, 1, 4, 2, 3, 5, 6, 7, 8] rfl)
  exact LP36 _ 0 0 0 none 0 _ _ _ (by omega) (by omega) (by omega) (by omega) (rfl) (Or.inr ⟨rfl, rfl⟩) (Nat.lt_succ_self _) hP hD hS (lv_sub hl [0, 1, 2, 3, 4, 5, 6, 7, 8] rfl)
