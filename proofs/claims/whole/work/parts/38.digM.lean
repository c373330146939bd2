/-! the digest: the reference -/
def stR (A : SS) : Nat → Int → Int → Int
  | 0, _, h => h
  | r + 1, a, h => stR A r (a + 1) (dgS A a h)
theorem st_0 {A : SS} {r : Nat} {a h : Int} (e : r = 0) : stR A r a h = h := by subst e; rfl
theorem st_s {A : SS} {r r' : Nat} {a h : Int} (e : r = r' + 1) : stR A r a h = stR A r' (a + 1) (dgS A a h) := by subst e; rfl
def llR (A : SS) : Nat → Int → Int → Int
  | 0, _, h => h
  | r + 1, a, h => llR A r (a + 1) (dgL A a h)
theorem ll_0 {A : SS} {r : Nat} {a h : Int} (e : r = 0) : llR A r a h = h := by subst e; rfl
theorem ll_s {A : SS} {r r' : Nat} {a h : Int} (e : r = r' + 1) : llR A r a h = llR A r' (a + 1) (dgL A a h) := by subst e; rfl

set_option maxRecDepth 100000 in
set_option maxHeartbeats 4000000 in
theorem m_X11_digest (A S : SS) (hR : mRel S A) (hm : MI A) : zM LM yX11_digest cX11_digest 5 (some .long) 5 116 [zr 0] S (fun r S' => r = some (zl (dgF A)) ∧ mRel S' A) := by
  refine zM_of (own := RX11) rfl (by decide +kernel) [some (zr 0), none, none, none, none] (Nat.le_of_ble_eq_true rfl) rfl ?_
  intro x h
  refine z_ldc2 (pc := 0) (a := 17) h kcX11_220 dX11_digest_0 (by decide) ?_
  refine z_lstore_n (pc := 3) (loc' := [some (zr 0), some (zl 17), none, none, none]) h dX11_digest_3 rfl (Nat.le_of_ble_eq_true rfl) rfl rfl ?_
  refine z_iconst (pc := 4) h dX11_digest_4 ?_
  refine z_istore_n (pc := 5) (loc' := [some (zr 0), some (zl 17), none, some (zi 0), none]) h dX11_digest_5 rfl (Nat.le_of_ble_eq_true rfl) rfl rfl ?_
  have J6 : ∀ (N : Nat) (y w : Int) (S1 : SS) (hw : 0 ≤ w ∧ w ≤ 8) (hR1 : mRel S1 A) (hI : mxR (sp_count A) (8 - w).toNat w y = mxR (sp_count A) 8 0 17) , (8 - w).toNat = N → zG x LM 6 [some (zr 0), some (zl y), none, some (zi w), none] ([] : List zV) S1 := by
    intro N
    induction N using Nat.strongRecOn with
    | _ N ih6 => ?_
    intro y w S1 hw hR1 hI hN6
    refine z_iload_n (pc := 6) h dX11_digest_6 rfl ?_
    refine z_bipush (pc := 7) h dX11_digest_7 rfl ?_
    refine z_icmp_ge (pc := 9) (tgt := 31) h dX11_digest_9 (by decide) ⟨by omega, by omega⟩ ⟨by decide, by decide⟩ (fun hc9 => ?_) (fun hc9 => ?_)
    ·
      refine z_iconst (pc := 31) h dX11_digest_31 ?_
      refine z_istore_n (pc := 32) (loc' := [some (zr 0), some (zl y), none, some (zi 0), none]) h dX11_digest_32 rfl (Nat.le_of_ble_eq_true rfl) rfl rfl ?_
      have J33 : ∀ (N : Nat) (y a : Int) (S2 : SS) (ha : 0 ≤ a ∧ a ≤ 2) (hR2 : mRel S2 A) (hI2 : stR A (2 - a).toNat a y = stR A 2 0 (mxR (sp_count A) 8 0 17)) , (2 - a).toNat = N → zG x LM 33 [some (zr 0), some (zl y), none, some (zi a), none] ([] : List zV) S2 := by
        intro N
        induction N using Nat.strongRecOn with
        | _ N ih33 => ?_
        intro y a S2 ha hR2 hI2 hN33
        refine z_iload_n (pc := 33) h dX11_digest_33 rfl ?_
        refine z_iconst (pc := 34) h dX11_digest_34 ?_
        refine z_icmp_ge (pc := 35) (tgt := 183) h dX11_digest_35 (by decide) ⟨by omega, by omega⟩ ⟨by decide, by decide⟩ (fun hc35 => ?_) (fun hc35 => ?_)
        ·
          refine z_iconst (pc := 183) h dX11_digest_183 ?_
          refine z_istore_n (pc := 184) (loc' := [some (zr 0), some (zl y), none, some (zi 0), none]) h dX11_digest_184 rfl (Nat.le_of_ble_eq_true rfl) rfl rfl ?_
          have J185 : ∀ (N : Nat) (y w : Int) (S4 : SS) (hw4 : 0 ≤ w ∧ w ≤ 3) (hR4 : mRel S4 A) (hI4 : mxR (joiV A) (3 - w).toNat w y = mxR (joiV A) 3 0 (stR A 2 0 (mxR (sp_count A) 8 0 17))) , (3 - w).toNat = N → zG x LM 185 [some (zr 0), some (zl y), none, some (zi w), none] ([] : List zV) S4 := by
            intro N
            induction N using Nat.strongRecOn with
            | _ N ih185 => ?_
            intro y w S4 hw4 hR4 hI4 hN185
            refine z_iload_n (pc := 185) h dX11_digest_185 rfl ?_
            refine z_iconst (pc := 186) h dX11_digest_186 ?_
            refine z_icmp_ge (pc := 187) (tgt := 209) h dX11_digest_187 (by decide) ⟨by omega, by omega⟩ ⟨by decide, by decide⟩ (fun hc187 => ?_) (fun hc187 => ?_)
            ·
              refine z_ldc2 (pc := 209) (a := 31) h kcX11_222 dX11_digest_209 (by decide) ?_
              refine z_lload_n (pc := 212) h dX11_digest_212 rfl ?_
              refine z_lmul (pc := 213) h dX11_digest_213 ?_
              refine z_aload_n (pc := 214) h dX11_digest_214 rfl ?_
              refine z_callV (pc := 215) (rest := [zl (31 * y)]) h (m_X11_netNow A S4 (by first | assumption | omega) (by first | assumption | omega)) dX11_digest_215 mcX11_netNow miX11_netNow mlX11_168 rfl rfl ⟨by decide, by decide⟩ clX11 rfl rfl rfl (Nat.le_of_ble_eq_true rfl) ?_
              rintro _ S215 ⟨rfl, hr215R⟩
              show zG x LM 218 [some (zr 0), some (zl y), none, some (zi w), none] [zi (netV A), zl (31 * y)] S215
              refine z_i2lw (pc := 218) h dX11_digest_218 ?_
              refine z_ladd (pc := 219) h dX11_digest_219 ?_
              refine z_lstore_n (pc := 220) (loc' := [some (zr 0), some (zl ((31 * y) + (w32 (netV A)))), none, some (zi w), none]) h dX11_digest_220 rfl (Nat.le_of_ble_eq_true rfl) rfl rfl ?_
              refine z_iconst (pc := 221) h dX11_digest_221 ?_
              refine z_istore_n (pc := 222) (loc' := [some (zr 0), some (zl ((31 * y) + (w32 (netV A)))), none, some (zi 0), none]) h dX11_digest_222 rfl (Nat.le_of_ble_eq_true rfl) rfl rfl ?_
              have J223 : ∀ (N : Nat) (y a : Int) (S5 : SS) (ha5 : 0 ≤ a ∧ a ≤ 2) (hR5 : mRel S5 A) (hI5 : llR A (2 - a).toNat a y = llR A 2 0 (31 * mxR (joiV A) 3 0 (stR A 2 0 (mxR (sp_count A) 8 0 17)) + w32 (netV A))) , (2 - a).toNat = N → zG x LM 223 [some (zr 0), some (zl y), none, some (zi a), none] ([] : List zV) S5 := by
                intro N
                induction N using Nat.strongRecOn with
                | _ N ih223 => ?_
                intro y a S5 ha5 hR5 hI5 hN223
                refine z_iload_n (pc := 223) h dX11_digest_223 rfl ?_
                refine z_iconst (pc := 224) h dX11_digest_224 ?_
                refine z_icmp_ge (pc := 225) (tgt := 269) h dX11_digest_225 (by decide) ⟨by omega, by omega⟩ ⟨by decide, by decide⟩ (fun hc225 => ?_) (fun hc225 => ?_)
                ·
                  refine z_ldc2 (pc := 269) (a := 31) h kcX11_222 dX11_digest_269 (by decide) ?_
                  refine z_lload_n (pc := 272) h dX11_digest_272 rfl ?_
                  refine z_lmul (pc := 273) h dX11_digest_273 ?_
                  refine z_iconst (pc := 274) h dX11_digest_274 ?_
                  refine z_iconst (pc := 275) h dX11_digest_275 ?_
                  refine z_iconst (pc := 276) h dX11_digest_276 ?_
                  refine z_callS (pc := 277) (rest := [zl (31 * y)]) h (m_X11_numbersOf 1 2 (-1) S5 ⟨by decide, by decide⟩ ⟨by decide, by decide⟩ ⟨by decide, by decide⟩) dX11_digest_277 mcX11_numbersOf msX11_numbersOf mlX11_122 rfl rfl ⟨by decide, by decide⟩ rfl (Nat.le_of_ble_eq_true rfl) ?_
                  rintro _ _ ⟨rfl, rfl⟩
                  show zG x LM 280 [some (zr 0), some (zl y), none, some (zi a), none] [zi (pairsF 1 2 (-1)), zl (31 * y)] S5
                  refine z_i2lw (pc := 280) h dX11_digest_280 ?_
                  refine z_ladd (pc := 281) h dX11_digest_281 ?_
                  refine z_lstore_n (pc := 282) (loc' := [some (zr 0), some (zl ((31 * y) + (w32 (pairsF 1 2 (-1))))), none, some (zi a), none]) h dX11_digest_282 rfl (Nat.le_of_ble_eq_true rfl) rfl rfl ?_
                  refine z_iconst (pc := 283) h dX11_digest_283 ?_
                  refine z_istore_n (pc := 284) (loc' := [some (zr 0), some (zl ((31 * y) + (w32 (pairsF 1 2 (-1))))), none, some (zi 0), none]) h dX11_digest_284 rfl (Nat.le_of_ble_eq_true rfl) rfl rfl ?_
                  have J285 : ∀ (N : Nat) (y w : Int) (S7 : SS) (hw7 : 0 ≤ w ∧ w ≤ 3) (hR7 : mRel S7 A) (hI7 : mxR (lineF A) (3 - w).toNat w y = dgF A) , (3 - w).toNat = N → zG x LM 285 [some (zr 0), some (zl y), none, some (zi w), none] ([] : List zV) S7 := by
                    intro N
                    induction N using Nat.strongRecOn with
                    | _ N ih285 => ?_
                    intro y w S7 hw7 hR7 hI7 hN285
                    refine z_iload_n (pc := 285) h dX11_digest_285 rfl ?_
                    refine z_iconst (pc := 286) h dX11_digest_286 ?_
                    refine z_icmp_ge (pc := 287) (tgt := 309) h dX11_digest_287 (by decide) ⟨by omega, by omega⟩ ⟨by decide, by decide⟩ (fun hc287 => ?_) (fun hc287 => ?_)
                    ·
                      refine z_lload_n (pc := 309) h dX11_digest_309 rfl ?_
                      exact z_lret (pc := 310) h dX11_digest_310 rfl (⟨ap_l (by rw [mx_0 (by omega)] at hI7; exact hI7), hR7⟩)
                    ·
                      refine z_ldc2 (pc := 290) (a := 31) h kcX11_222 dX11_digest_290 (by decide) ?_
                      refine z_lload_n (pc := 293) h dX11_digest_293 rfl ?_
                      refine z_lmul (pc := 294) h dX11_digest_294 ?_
                      refine z_aload_n (pc := 295) h dX11_digest_295 rfl ?_
                      refine z_iload_n (pc := 296) h dX11_digest_296 rfl ?_
                      refine z_callV (pc := 297) (rest := [zl (31 * y)]) h (m_X11_lineNow w A S7 ⟨by omega, by omega⟩ (by first | assumption | omega) (by first | assumption | omega)) dX11_digest_297 mcX11_lineNow miX11_lineNow mlX11_206 rfl rfl ⟨by decide, by decide⟩ clX11 rfl rfl rfl (Nat.le_of_ble_eq_true rfl) ?_
                      rintro _ _ ⟨rfl, rfl⟩
                      show zG x LM 300 [some (zr 0), some (zl y), none, some (zi w), none] [zi (lineF A w), zl (31 * y)] S7
                      refine z_i2lw (pc := 300) h dX11_digest_300 ?_
                      refine z_ladd (pc := 301) h dX11_digest_301 ?_
                      refine z_lstore_n (pc := 302) (loc' := [some (zr 0), some (zl ((31 * y) + (w32 (lineF A w)))), none, some (zi w), none]) h dX11_digest_302 rfl (Nat.le_of_ble_eq_true rfl) rfl rfl ?_
                      refine z_iinc (pc := 303) (loc' := [some (zr 0), some (zl ((31 * y) + (w32 (lineF A w)))), none, some (zi (w + 1)), none]) h dX11_digest_303 rfl (Nat.le_of_ble_eq_true rfl) rfl rfl ?_
                      refine z_goto (pc := 306) (tgt := 285) h dX11_digest_306 (by decide) ?_
                      exact ih285 _ (by omega) ((31 * y) + (w32 (lineF A w))) (w + 1) S7 (by omega) (by exact hR7) (by rw [mx_s (r' := (3 - (w + 1)).toNat) (by omega)] at hI7; exact hI7) rfl
                  exact J285 _ ((31 * y) + (w32 (pairsF 1 2 (-1)))) 0 S5 (by omega) (by exact hR5) (by rw [ll_0 (by omega)] at hI5; rw [hI5]; rfl) rfl
                ·
                  have hda := dA_b hm (a := a) (by omega)
                  refine z_iconst (pc := 228) h dX11_digest_228 ?_
                  refine z_istore (pc := 229) (loc' := [some (zr 0), some (zl y), none, some (zi a), some (zi 0)]) h dX11_digest_229 (Nat.le_of_ble_eq_true rfl) rfl rfl ?_
                  have J231 : ∀ (N : Nat) (y6 k : Int) (S6 : SS) (hk6 : 0 ≤ k ∧ k ≤ dA A a) (hR6 : mRel S6 A) (hI6 : mxR (jodV A a) (dA A a - k).toNat k y6 = dgL A a y) , (dA A a - k).toNat = N → zG x LM 231 [some (zr 0), some (zl y6), none, some (zi a), some (zi k)] ([] : List zV) S6 := by
                    intro N
                    induction N using Nat.strongRecOn with
                    | _ N ih231 => ?_
                    intro y6 k S6 hk6 hR6 hI6 hN231
                    refine z_iload (pc := 231) h dX11_digest_231 rfl ?_
                    refine z_aload_n (pc := 233) h dX11_digest_233 rfl ?_
                    refine z_getR (a := 6) (pc := 234) h dX11_digest_234 clX11 lkX11_25 (by decide) rfl rfl ?_
                    refine z_iload_n (pc := 237) h dX11_digest_237 rfl ?_
                    refine z_iald (pc := 238) h dX11_digest_238 rfl (by decide) (by omega) (by omega) ?_
                    refine z_cv (b := (dA A a)) (by exact mr_at hR6 _ (by decide)) ?_
                    refine z_icmp_ge (pc := 239) (tgt := 263) h dX11_digest_239 (by decide) ⟨by omega, by omega⟩ ⟨by omega, by omega⟩ (fun hc239 => ?_) (fun hc239 => ?_)
                    ·
                      refine z_iinc (pc := 263) (loc' := [some (zr 0), some (zl y6), none, some (zi (a + 1)), some (zi k)]) h dX11_digest_263 rfl (Nat.le_of_ble_eq_true rfl) rfl rfl ?_
                      refine z_goto (pc := 266) (tgt := 223) h dX11_digest_266 (by decide) ?_
                      refine z_forget [true, true, true, true, false] (loc' := [some (zr 0), some (zl y6), none, some (zi (a + 1)), none]) rfl ?_
                      exact ih223 _ (by omega) y6 (a + 1) S6 (by omega) (by exact hR6) (by rw [mx_0 (by omega)] at hI6; rw [ll_s (r' := (2 - (a + 1)).toNat) (by omega), ← hI6] at hI5; exact hI5) rfl
                    ·
                      refine z_ldc2 (pc := 242) (a := 31) h kcX11_222 dX11_digest_242 (by decide) ?_
                      refine z_lload_n (pc := 245) h dX11_digest_245 rfl ?_
                      refine z_lmul (pc := 246) h dX11_digest_246 ?_
                      refine z_aload_n (pc := 247) h dX11_digest_247 rfl ?_
                      refine z_iload_n (pc := 248) h dX11_digest_248 rfl ?_
                      refine z_iload (pc := 249) h dX11_digest_249 rfl ?_
                      refine z_callV (pc := 251) (rest := [zl (31 * y6)]) h (m_X11_joinedNow a k A S6 (by first | assumption | omega) (by first | assumption | omega) (by first | assumption | omega) (by first | assumption | omega)) dX11_digest_251 mcX11_joinedNow miX11_joinedNow mlX11_172 rfl rfl ⟨by decide, by decide⟩ clX11 rfl rfl rfl (Nat.le_of_ble_eq_true rfl) ?_
                      rintro _ S251 ⟨rfl, hr251R⟩
                      show zG x LM 254 [some (zr 0), some (zl y6), none, some (zi a), some (zi k)] [zi (jodV A a k), zl (31 * y6)] S251
                      refine z_i2lw (pc := 254) h dX11_digest_254 ?_
                      refine z_ladd (pc := 255) h dX11_digest_255 ?_
                      refine z_lstore_n (pc := 256) (loc' := [some (zr 0), some (zl ((31 * y6) + (w32 (jodV A a k)))), none, some (zi a), some (zi k)]) h dX11_digest_256 rfl (Nat.le_of_ble_eq_true rfl) rfl rfl ?_
                      refine z_iinc (pc := 257) (loc' := [some (zr 0), some (zl ((31 * y6) + (w32 (jodV A a k)))), none, some (zi a), some (zi (k + 1))]) h dX11_digest_257 rfl (Nat.le_of_ble_eq_true rfl) rfl rfl ?_
                      refine z_goto (pc := 260) (tgt := 231) h dX11_digest_260 (by decide) ?_
                      exact ih231 _ (by omega) ((31 * y6) + (w32 (jodV A a k))) (k + 1) S251 (by omega) (by exact hr251R) (by rw [mx_s (r' := (dA A a - (k + 1)).toNat) (by omega)] at hI6; exact hI6) rfl
                  exact J231 _ y 0 S5 (by omega) (by exact hR5) (by unfold dgL; congr 1; omega) rfl
              exact J223 _ ((31 * y) + (w32 (netV A))) 0 S215 (by omega) (by exact hr215R) (by rw [mx_0 (by omega)] at hI4; rw [hI4]; rfl) rfl
            ·
              refine z_ldc2 (pc := 190) (a := 31) h kcX11_222 dX11_digest_190 (by decide) ?_
              refine z_lload_n (pc := 193) h dX11_digest_193 rfl ?_
              refine z_lmul (pc := 194) h dX11_digest_194 ?_
              refine z_aload_n (pc := 195) h dX11_digest_195 rfl ?_
              refine z_iload_n (pc := 196) h dX11_digest_196 rfl ?_
              refine z_callV (pc := 197) (rest := [zl (31 * y)]) h (m_X11_joinNow w A S4 ⟨by omega, by omega⟩ (by first | assumption | omega) (by first | assumption | omega)) dX11_digest_197 mcX11_joinNow miX11_joinNow mlX11_165 rfl rfl ⟨by decide, by decide⟩ clX11 rfl rfl rfl (Nat.le_of_ble_eq_true rfl) ?_
              rintro _ S197 ⟨rfl, hr197R⟩
              show zG x LM 200 [some (zr 0), some (zl y), none, some (zi w), none] [zi (joiV A w), zl (31 * y)] S197
              refine z_i2lw (pc := 200) h dX11_digest_200 ?_
              refine z_ladd (pc := 201) h dX11_digest_201 ?_
              refine z_lstore_n (pc := 202) (loc' := [some (zr 0), some (zl ((31 * y) + (w32 (joiV A w)))), none, some (zi w), none]) h dX11_digest_202 rfl (Nat.le_of_ble_eq_true rfl) rfl rfl ?_
              refine z_iinc (pc := 203) (loc' := [some (zr 0), some (zl ((31 * y) + (w32 (joiV A w)))), none, some (zi (w + 1)), none]) h dX11_digest_203 rfl (Nat.le_of_ble_eq_true rfl) rfl rfl ?_
              refine z_goto (pc := 206) (tgt := 185) h dX11_digest_206 (by decide) ?_
              exact ih185 _ (by omega) ((31 * y) + (w32 (joiV A w))) (w + 1) S197 (by omega) (by exact hr197R) (by rw [mx_s (r' := (3 - (w + 1)).toNat) (by omega)] at hI4; exact hI4) rfl
          exact J185 _ y 0 S2 (by omega) (by exact hR2) (by rw [st_0 (by omega)] at hI2; rw [hI2]; rfl) rfl
        ·
          have hma := mA_b hm (a := a) (by omega)
          refine z_ldc2 (pc := 38) (a := 31) h kcX11_222 dX11_digest_38 (by decide) ?_
          refine z_lload_n (pc := 41) h dX11_digest_41 rfl ?_
          refine z_lmul (pc := 42) h dX11_digest_42 ?_
          refine z_aload_n (pc := 43) h dX11_digest_43 rfl ?_
          refine z_iload_n (pc := 44) h dX11_digest_44 rfl ?_
          refine z_callV (pc := 45) (rest := [zl (31 * y)]) h (m_X11_faultNow a A S2 (by first | assumption | omega) (by first | assumption | omega) (by first | assumption | omega)) dX11_digest_45 mcX11_faultNow miX11_faultNow mlX11_86 rfl rfl ⟨by decide, by decide⟩ clX11 rfl rfl rfl (Nat.le_of_ble_eq_true rfl) ?_
          rintro _ S45 ⟨rfl, hr45E, hr45R, hr45P⟩
          show zG x LM 48 [some (zr 0), some (zl y), none, some (zi a), none] [zi (faultF (tA A a) (nA A a)), zl (31 * y)] S45
          refine z_i2lw (pc := 48) h dX11_digest_48 ?_
          refine z_ladd (pc := 49) h dX11_digest_49 ?_
          refine z_lstore_n (pc := 50) (loc' := [some (zr 0), some (zl ((31 * y) + (w32 (faultF (tA A a) (nA A a))))), none, some (zi a), none]) h dX11_digest_50 rfl (Nat.le_of_ble_eq_true rfl) rfl rfl ?_
          refine z_ldc2 (pc := 51) (a := 31) h kcX11_222 dX11_digest_51 (by decide) ?_
          refine z_lload_n (pc := 54) h dX11_digest_54 rfl ?_
          refine z_lmul (pc := 55) h dX11_digest_55 ?_
          refine z_aload_n (pc := 56) h dX11_digest_56 rfl ?_
          refine z_iload_n (pc := 57) h dX11_digest_57 rfl ?_
          refine z_callV (pc := 58) (rest := [zl (31 * ((31 * y) + (w32 (faultF (tA A a) (nA A a)))))]) h (m_X11_wholeNow a A S45 (by first | assumption | omega) (by first | assumption | omega) (by first | assumption | omega)) dX11_digest_58 mcX11_wholeNow miX11_wholeNow mlX11_99 rfl rfl ⟨by decide, by decide⟩ clX11 rfl rfl rfl (Nat.le_of_ble_eq_true rfl) ?_
          rintro _ S58 ⟨rfl, hr58E, hr58R, hr58P⟩
          show zG x LM 61 [some (zr 0), some (zl ((31 * y) + (w32 (faultF (tA A a) (nA A a))))), none, some (zi a), none] [zi (wholeF (A 5 0) (qA A a) (mA A a)), zl (31 * ((31 * y) + (w32 (faultF (tA A a) (nA A a)))))] S58
          refine z_i2lw (pc := 61) h dX11_digest_61 ?_
          refine z_ladd (pc := 62) h dX11_digest_62 ?_
          refine z_lstore_n (pc := 63) (loc' := [some (zr 0), some (zl ((31 * ((31 * y) + (w32 (faultF (tA A a) (nA A a))))) + (w32 (wholeF (A 5 0) (qA A a) (mA A a))))), none, some (zi a), none]) h dX11_digest_63 rfl (Nat.le_of_ble_eq_true rfl) rfl rfl ?_
          refine z_ldc2 (pc := 64) (a := 31) h kcX11_222 dX11_digest_64 (by decide) ?_
          refine z_lload_n (pc := 67) h dX11_digest_67 rfl ?_
          refine z_lmul (pc := 68) h dX11_digest_68 ?_
          refine z_aload_n (pc := 69) h dX11_digest_69 rfl ?_
          refine z_iload_n (pc := 70) h dX11_digest_70 rfl ?_
          refine z_bipush (pc := 71) h dX11_digest_71 rfl ?_
          refine z_iconst (pc := 73) h dX11_digest_73 ?_
          refine z_callV (pc := 74) (rest := [zl (31 * ((31 * ((31 * y) + (w32 (faultF (tA A a) (nA A a))))) + (w32 (wholeF (A 5 0) (qA A a) (mA A a)))))]) h (m_X11_seenNow a 12 (-1) A S58 (by first | assumption | omega) (by first | assumption | omega) (by first | assumption | omega) (by first | assumption | omega) (by first | assumption | omega)) dX11_digest_74 mcX11_seenNow miX11_seenNow mlX11_119 rfl rfl ⟨by decide, by decide⟩ clX11 rfl rfl rfl (Nat.le_of_ble_eq_true rfl) ?_
          rintro _ S74 ⟨rfl, hr74E, hr74R, hr74P⟩
          show zG x LM 77 [some (zr 0), some (zl ((31 * ((31 * y) + (w32 (faultF (tA A a) (nA A a))))) + (w32 (wholeF (A 5 0) (qA A a) (mA A a))))), none, some (zi a), none] [zi (seenF (mA A a) 12 (-1)), zl (31 * ((31 * ((31 * y) + (w32 (faultF (tA A a) (nA A a))))) + (w32 (wholeF (A 5 0) (qA A a) (mA A a)))))] S74
          refine z_i2lw (pc := 77) h dX11_digest_77 ?_
          refine z_ladd (pc := 78) h dX11_digest_78 ?_
          refine z_lstore_n (pc := 79) (loc' := [some (zr 0), some (zl ((31 * ((31 * ((31 * y) + (w32 (faultF (tA A a) (nA A a))))) + (w32 (wholeF (A 5 0) (qA A a) (mA A a))))) + (w32 (seenF (mA A a) 12 (-1))))), none, some (zi a), none]) h dX11_digest_79 rfl (Nat.le_of_ble_eq_true rfl) rfl rfl ?_
          refine z_ldc2 (pc := 80) (a := 31) h kcX11_222 dX11_digest_80 (by decide) ?_
          refine z_lload_n (pc := 83) h dX11_digest_83 rfl ?_
          refine z_lmul (pc := 84) h dX11_digest_84 ?_
          refine z_aload_n (pc := 85) h dX11_digest_85 rfl ?_
          refine z_iload_n (pc := 86) h dX11_digest_86 rfl ?_
          refine z_iconst (pc := 87) h dX11_digest_87 ?_
          refine z_callV (pc := 88) (rest := [zl (31 * ((31 * ((31 * ((31 * y) + (w32 (faultF (tA A a) (nA A a))))) + (w32 (wholeF (A 5 0) (qA A a) (mA A a))))) + (w32 (seenF (mA A a) 12 (-1)))))]) h (m_X11_missingNow a 0 A S74 (by first | assumption | omega) (by first | assumption | omega) (by first | assumption | omega) ⟨by decide, by decide⟩) dX11_digest_88 mcX11_missingNow miX11_missingNow mlX11_191 rfl rfl ⟨by decide, by decide⟩ clX11 rfl rfl rfl (Nat.le_of_ble_eq_true rfl) ?_
          rintro _ S88 ⟨rfl, hr88E, hr88R, hr88P⟩
          show zG x LM 91 [some (zr 0), some (zl ((31 * ((31 * ((31 * y) + (w32 (faultF (tA A a) (nA A a))))) + (w32 (wholeF (A 5 0) (qA A a) (mA A a))))) + (w32 (seenF (mA A a) 12 (-1))))), none, some (zi a), none] [zi (missV (A 5 0) (qA A a) (mA A a) 0), zl (31 * ((31 * ((31 * ((31 * y) + (w32 (faultF (tA A a) (nA A a))))) + (w32 (wholeF (A 5 0) (qA A a) (mA A a))))) + (w32 (seenF (mA A a) 12 (-1)))))] S88
          refine z_i2lw (pc := 91) h dX11_digest_91 ?_
          refine z_ladd (pc := 92) h dX11_digest_92 ?_
          refine z_lstore_n (pc := 93) (loc' := [some (zr 0), some (zl ((31 * ((31 * ((31 * ((31 * y) + (w32 (faultF (tA A a) (nA A a))))) + (w32 (wholeF (A 5 0) (qA A a) (mA A a))))) + (w32 (seenF (mA A a) 12 (-1))))) + (w32 (missV (A 5 0) (qA A a) (mA A a) 0)))), none, some (zi a), none]) h dX11_digest_93 rfl (Nat.le_of_ble_eq_true rfl) rfl rfl ?_
          refine z_ldc2 (pc := 94) (a := 31) h kcX11_222 dX11_digest_94 (by decide) ?_
          refine z_lload_n (pc := 97) h dX11_digest_97 rfl ?_
          refine z_lmul (pc := 98) h dX11_digest_98 ?_
          refine z_aload_n (pc := 99) h dX11_digest_99 rfl ?_
          refine z_iload_n (pc := 100) h dX11_digest_100 rfl ?_
          refine z_iconst (pc := 101) h dX11_digest_101 ?_
          refine z_callV (pc := 102) (rest := [zl (31 * ((31 * ((31 * ((31 * ((31 * y) + (w32 (faultF (tA A a) (nA A a))))) + (w32 (wholeF (A 5 0) (qA A a) (mA A a))))) + (w32 (seenF (mA A a) 12 (-1))))) + (w32 (missV (A 5 0) (qA A a) (mA A a) 0))))]) h (m_X11_missingNow a 1 A S88 (by first | assumption | omega) (by first | assumption | omega) (by first | assumption | omega) ⟨by decide, by decide⟩) dX11_digest_102 mcX11_missingNow miX11_missingNow mlX11_191 rfl rfl ⟨by decide, by decide⟩ clX11 rfl rfl rfl (Nat.le_of_ble_eq_true rfl) ?_
          rintro _ S102 ⟨rfl, hr102E, hr102R, hr102P⟩
          show zG x LM 105 [some (zr 0), some (zl ((31 * ((31 * ((31 * ((31 * y) + (w32 (faultF (tA A a) (nA A a))))) + (w32 (wholeF (A 5 0) (qA A a) (mA A a))))) + (w32 (seenF (mA A a) 12 (-1))))) + (w32 (missV (A 5 0) (qA A a) (mA A a) 0)))), none, some (zi a), none] [zi (missV (A 5 0) (qA A a) (mA A a) 1), zl (31 * ((31 * ((31 * ((31 * ((31 * y) + (w32 (faultF (tA A a) (nA A a))))) + (w32 (wholeF (A 5 0) (qA A a) (mA A a))))) + (w32 (seenF (mA A a) 12 (-1))))) + (w32 (missV (A 5 0) (qA A a) (mA A a) 0))))] S102
          refine z_i2lw (pc := 105) h dX11_digest_105 ?_
          refine z_ladd (pc := 106) h dX11_digest_106 ?_
          refine z_lstore_n (pc := 107) (loc' := [some (zr 0), some (zl ((31 * ((31 * ((31 * ((31 * ((31 * y) + (w32 (faultF (tA A a) (nA A a))))) + (w32 (wholeF (A 5 0) (qA A a) (mA A a))))) + (w32 (seenF (mA A a) 12 (-1))))) + (w32 (missV (A 5 0) (qA A a) (mA A a) 0)))) + (w32 (missV (A 5 0) (qA A a) (mA A a) 1)))), none, some (zi a), none]) h dX11_digest_107 rfl (Nat.le_of_ble_eq_true rfl) rfl rfl ?_
          refine z_ldc2 (pc := 108) (a := 31) h kcX11_222 dX11_digest_108 (by decide) ?_
          refine z_lload_n (pc := 111) h dX11_digest_111 rfl ?_
          refine z_lmul (pc := 112) h dX11_digest_112 ?_
          refine z_aload_n (pc := 113) h dX11_digest_113 rfl ?_
          refine z_iload_n (pc := 114) h dX11_digest_114 rfl ?_
          refine z_iconst (pc := 115) h dX11_digest_115 ?_
          refine z_callV (pc := 116) (rest := [zl (31 * ((31 * ((31 * ((31 * ((31 * ((31 * y) + (w32 (faultF (tA A a) (nA A a))))) + (w32 (wholeF (A 5 0) (qA A a) (mA A a))))) + (w32 (seenF (mA A a) 12 (-1))))) + (w32 (missV (A 5 0) (qA A a) (mA A a) 0)))) + (w32 (missV (A 5 0) (qA A a) (mA A a) 1))))]) h (m_X11_fewNow a 5 A S102 (by first | assumption | omega) (by first | assumption | omega) (by first | assumption | omega) (by first | assumption | omega)) dX11_digest_116 mcX11_fewNow miX11_fewNow mlX11_197 rfl rfl ⟨by decide, by decide⟩ clX11 rfl rfl rfl (Nat.le_of_ble_eq_true rfl) ?_
          rintro _ S116 ⟨rfl, hr116E, hr116R, hr116P⟩
          show zG x LM 119 [some (zr 0), some (zl ((31 * ((31 * ((31 * ((31 * ((31 * y) + (w32 (faultF (tA A a) (nA A a))))) + (w32 (wholeF (A 5 0) (qA A a) (mA A a))))) + (w32 (seenF (mA A a) 12 (-1))))) + (w32 (missV (A 5 0) (qA A a) (mA A a) 0)))) + (w32 (missV (A 5 0) (qA A a) (mA A a) 1)))), none, some (zi a), none] [zi (fewV (A 5 0) (qA A a) (mA A a) 5), zl (31 * ((31 * ((31 * ((31 * ((31 * ((31 * y) + (w32 (faultF (tA A a) (nA A a))))) + (w32 (wholeF (A 5 0) (qA A a) (mA A a))))) + (w32 (seenF (mA A a) 12 (-1))))) + (w32 (missV (A 5 0) (qA A a) (mA A a) 0)))) + (w32 (missV (A 5 0) (qA A a) (mA A a) 1))))] S116
          refine z_i2lw (pc := 119) h dX11_digest_119 ?_
          refine z_ladd (pc := 120) h dX11_digest_120 ?_
          refine z_lstore_n (pc := 121) (loc' := [some (zr 0), some (zl ((31 * ((31 * ((31 * ((31 * ((31 * ((31 * y) + (w32 (faultF (tA A a) (nA A a))))) + (w32 (wholeF (A 5 0) (qA A a) (mA A a))))) + (w32 (seenF (mA A a) 12 (-1))))) + (w32 (missV (A 5 0) (qA A a) (mA A a) 0)))) + (w32 (missV (A 5 0) (qA A a) (mA A a) 1)))) + (w32 (fewV (A 5 0) (qA A a) (mA A a) 5)))), none, some (zi a), none]) h dX11_digest_121 rfl (Nat.le_of_ble_eq_true rfl) rfl rfl ?_
          refine z_ldc2 (pc := 122) (a := 31) h kcX11_222 dX11_digest_122 (by decide) ?_
          refine z_lload_n (pc := 125) h dX11_digest_125 rfl ?_
          refine z_lmul (pc := 126) h dX11_digest_126 ?_
          refine z_aload_n (pc := 127) h dX11_digest_127 rfl ?_
          refine z_iload_n (pc := 128) h dX11_digest_128 rfl ?_
          refine z_callV (pc := 129) (rest := [zl (31 * ((31 * ((31 * ((31 * ((31 * ((31 * ((31 * y) + (w32 (faultF (tA A a) (nA A a))))) + (w32 (wholeF (A 5 0) (qA A a) (mA A a))))) + (w32 (seenF (mA A a) 12 (-1))))) + (w32 (missV (A 5 0) (qA A a) (mA A a) 0)))) + (w32 (missV (A 5 0) (qA A a) (mA A a) 1)))) + (w32 (fewV (A 5 0) (qA A a) (mA A a) 5))))]) h (m_X11_ordersNow a A S116 (by first | assumption | omega) (by first | assumption | omega) (by first | assumption | omega)) dX11_digest_129 mcX11_ordersNow miX11_ordersNow mlX11_184 rfl rfl ⟨by decide, by decide⟩ clX11 rfl rfl rfl (Nat.le_of_ble_eq_true rfl) ?_
          rintro _ S129 ⟨rfl, hr129R, hr129P⟩
          show zG x LM 132 [some (zr 0), some (zl ((31 * ((31 * ((31 * ((31 * ((31 * ((31 * y) + (w32 (faultF (tA A a) (nA A a))))) + (w32 (wholeF (A 5 0) (qA A a) (mA A a))))) + (w32 (seenF (mA A a) 12 (-1))))) + (w32 (missV (A 5 0) (qA A a) (mA A a) 0)))) + (w32 (missV (A 5 0) (qA A a) (mA A a) 1)))) + (w32 (fewV (A 5 0) (qA A a) (mA A a) 5)))), none, some (zi a), none] [zi (ordsV (A 5 0) (qA A a) (mA A a)), zl (31 * ((31 * ((31 * ((31 * ((31 * ((31 * ((31 * y) + (w32 (faultF (tA A a) (nA A a))))) + (w32 (wholeF (A 5 0) (qA A a) (mA A a))))) + (w32 (seenF (mA A a) 12 (-1))))) + (w32 (missV (A 5 0) (qA A a) (mA A a) 0)))) + (w32 (missV (A 5 0) (qA A a) (mA A a) 1)))) + (w32 (fewV (A 5 0) (qA A a) (mA A a) 5))))] S129
          refine z_i2lw (pc := 132) h dX11_digest_132 ?_
          refine z_ladd (pc := 133) h dX11_digest_133 ?_
          refine z_lstore_n (pc := 134) (loc' := [some (zr 0), some (zl ((31 * ((31 * ((31 * ((31 * ((31 * ((31 * ((31 * y) + (w32 (faultF (tA A a) (nA A a))))) + (w32 (wholeF (A 5 0) (qA A a) (mA A a))))) + (w32 (seenF (mA A a) 12 (-1))))) + (w32 (missV (A 5 0) (qA A a) (mA A a) 0)))) + (w32 (missV (A 5 0) (qA A a) (mA A a) 1)))) + (w32 (fewV (A 5 0) (qA A a) (mA A a) 5)))) + (w32 (ordsV (A 5 0) (qA A a) (mA A a))))), none, some (zi a), none]) h dX11_digest_134 rfl (Nat.le_of_ble_eq_true rfl) rfl rfl ?_
          refine z_iconst (pc := 135) h dX11_digest_135 ?_
          refine z_istore (pc := 136) (loc' := [some (zr 0), some (zl ((31 * ((31 * ((31 * ((31 * ((31 * ((31 * ((31 * y) + (w32 (faultF (tA A a) (nA A a))))) + (w32 (wholeF (A 5 0) (qA A a) (mA A a))))) + (w32 (seenF (mA A a) 12 (-1))))) + (w32 (missV (A 5 0) (qA A a) (mA A a) 0)))) + (w32 (missV (A 5 0) (qA A a) (mA A a) 1)))) + (w32 (fewV (A 5 0) (qA A a) (mA A a) 5)))) + (w32 (ordsV (A 5 0) (qA A a) (mA A a))))), none, some (zi a), some (zi 0)]) h dX11_digest_136 (Nat.le_of_ble_eq_true rfl) rfl rfl ?_
          have J138 : ∀ (N : Nat) (y3 k : Int) (S3 : SS) (hk : 0 ≤ k ∧ k ≤ 4 * mA A a) (hR3 : mRel S3 A) (hP3 : prsM S3 A a) (hI3 : mxR (plV A a) (4 * mA A a - k).toNat k y3 = dgS A a y) , (4 * mA A a - k).toNat = N → zG x LM 138 [some (zr 0), some (zl y3), none, some (zi a), some (zi k)] ([] : List zV) S3 := by
            intro N
            induction N using Nat.strongRecOn with
            | _ N ih138 => ?_
            intro y3 k S3 hk hR3 hP3 hI3 hN138
            refine z_iload (pc := 138) h dX11_digest_138 rfl ?_
            refine z_iconst (pc := 140) h dX11_digest_140 ?_
            refine z_aload_n (pc := 141) h dX11_digest_141 rfl ?_
            refine z_getR (a := 3) (pc := 142) h dX11_digest_142 clX11 lkX11_16 (by decide) rfl rfl ?_
            refine z_iload_n (pc := 145) h dX11_digest_145 rfl ?_
            refine z_iald (pc := 146) h dX11_digest_146 rfl (by decide) (by omega) (by omega) ?_
            refine z_cv (b := (mA A a)) (by exact hP3.1) ?_
            refine z_imul (pc := 147) h dX11_digest_147 ?_
            refine z_icmp_ge (pc := 148) (tgt := 177) h dX11_digest_148 (by decide) ⟨by omega, by omega⟩ ⟨by omega, by omega⟩ (fun hc148 => ?_) (fun hc148 => ?_)
            ·
              refine z_iinc (pc := 177) (loc' := [some (zr 0), some (zl y3), none, some (zi (a + 1)), some (zi k)]) h dX11_digest_177 rfl (Nat.le_of_ble_eq_true rfl) rfl rfl ?_
              refine z_goto (pc := 180) (tgt := 33) h dX11_digest_180 (by decide) ?_
              refine z_forget [true, true, true, true, false] (loc' := [some (zr 0), some (zl y3), none, some (zi (a + 1)), none]) rfl ?_
              exact ih33 _ (by omega) y3 (a + 1) S3 (by omega) (by exact hR3) (by rw [mx_0 (by omega)] at hI3; rw [st_s (r' := (2 - (a + 1)).toNat) (by omega), ← hI3] at hI2; exact hI2) rfl
            ·
              have hpl : S3 4 (48 * a + k).toNat = plV A a k := by unfold plV; rw [show 48 * a + k = 48 * a + 4 * (k / 4) + k % 4 by omega]; exact hP3.2 (k / 4) (k % 4) (by omega) (by omega) (by omega) (by omega)
              refine z_ldc2 (pc := 151) (a := 31) h kcX11_222 dX11_digest_151 (by decide) ?_
              refine z_lload_n (pc := 154) h dX11_digest_154 rfl ?_
              refine z_lmul (pc := 155) h dX11_digest_155 ?_
              refine z_aload_n (pc := 156) h dX11_digest_156 rfl ?_
              refine z_getR (a := 4) (pc := 157) h dX11_digest_157 clX11 lkX11_19 (by decide) rfl rfl ?_
              refine z_bipush (pc := 160) h dX11_digest_160 rfl ?_
              refine z_iload_n (pc := 162) h dX11_digest_162 rfl ?_
              refine z_imul (pc := 163) h dX11_digest_163 ?_
              refine z_iload (pc := 164) h dX11_digest_164 rfl ?_
              refine z_iadd (pc := 166) h dX11_digest_166 ?_
              refine z_iald (pc := 167) h dX11_digest_167 rfl (by decide) (by omega) (by omega) ?_
              refine z_cv (b := (plV A a k)) (by exact hpl) ?_
              refine z_i2lw (pc := 168) h dX11_digest_168 ?_
              refine z_ladd (pc := 169) h dX11_digest_169 ?_
              refine z_lstore_n (pc := 170) (loc' := [some (zr 0), some (zl ((31 * y3) + (w32 (plV A a k)))), none, some (zi a), some (zi k)]) h dX11_digest_170 rfl (Nat.le_of_ble_eq_true rfl) rfl rfl ?_
              refine z_iinc (pc := 171) (loc' := [some (zr 0), some (zl ((31 * y3) + (w32 (plV A a k)))), none, some (zi a), some (zi (k + 1))]) h dX11_digest_171 rfl (Nat.le_of_ble_eq_true rfl) rfl rfl ?_
              refine z_goto (pc := 174) (tgt := 138) h dX11_digest_174 (by decide) ?_
              exact ih138 _ (by omega) ((31 * y3) + (w32 (plV A a k))) (k + 1) S3 (by omega) (by exact hR3) (by exact hP3) (by rw [mx_s (r' := (4 * mA A a - (k + 1)).toNat) (by omega)] at hI3; exact hI3) rfl
          exact J138 _ ((31 * ((31 * ((31 * ((31 * ((31 * ((31 * ((31 * y) + (w32 (faultF (tA A a) (nA A a))))) + (w32 (wholeF (A 5 0) (qA A a) (mA A a))))) + (w32 (seenF (mA A a) 12 (-1))))) + (w32 (missV (A 5 0) (qA A a) (mA A a) 0)))) + (w32 (missV (A 5 0) (qA A a) (mA A a) 1)))) + (w32 (fewV (A 5 0) (qA A a) (mA A a) 5)))) + (w32 (ordsV (A 5 0) (qA A a) (mA A a)))) 0 S129 (by omega) (by exact hr129R) (by exact hr129P) (by unfold dgS dgH; congr 1; omega) rfl
      exact J33 _ y 0 S1 (by omega) (by exact hR1) (by rw [mx_0 (by omega)] at hI; rw [hI]; rfl) rfl
    ·
      refine z_ldc2 (pc := 12) (a := 31) h kcX11_222 dX11_digest_12 (by decide) ?_
      refine z_lload_n (pc := 15) h dX11_digest_15 rfl ?_
      refine z_lmul (pc := 16) h dX11_digest_16 ?_
      refine z_aload_n (pc := 17) h dX11_digest_17 rfl ?_
      refine z_iload_n (pc := 18) h dX11_digest_18 rfl ?_
      refine z_callV (pc := 19) (rest := [zl (31 * y)]) h (m_X11_count w A S1 ⟨by omega, by omega⟩ (by first | assumption | omega) (by first | assumption | omega)) dX11_digest_19 mcX11_count miX11_count mlX11_224 rfl rfl ⟨by decide, by decide⟩ clX11 rfl rfl rfl (Nat.le_of_ble_eq_true rfl) ?_
      rintro _ S19 ⟨rfl, hr19⟩
      show zG x LM 22 [some (zr 0), some (zl y), none, some (zi w), none] [zi (sp_count A w), zl (31 * y)] S19
      refine z_i2lw (pc := 22) h dX11_digest_22 ?_
      refine z_ladd (pc := 23) h dX11_digest_23 ?_
      refine z_lstore_n (pc := 24) (loc' := [some (zr 0), some (zl ((31 * y) + (w32 (sp_count A w)))), none, some (zi w), none]) h dX11_digest_24 rfl (Nat.le_of_ble_eq_true rfl) rfl rfl ?_
      refine z_iinc (pc := 25) (loc' := [some (zr 0), some (zl ((31 * y) + (w32 (sp_count A w)))), none, some (zi (w + 1)), none]) h dX11_digest_25 rfl (Nat.le_of_ble_eq_true rfl) rfl rfl ?_
      refine z_goto (pc := 28) (tgt := 6) h dX11_digest_28 (by decide) ?_
      exact ih6 _ (by omega) ((31 * y) + (w32 (sp_count A w))) (w + 1) S19 (by omega) (by exact hr19) (by rw [mx_s (r' := (8 - (w + 1)).toNat) (by omega)] at hI; exact hI) rfl
  exact J6 _ 17 0 S (by omega) (by exact hR) (rfl) rfl
