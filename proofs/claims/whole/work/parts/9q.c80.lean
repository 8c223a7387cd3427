section C80
variable {G : Gl} {d : Nat} {T : Sh} {I : Mi} {N : Nat → Int} {Q : Option AV → Sh → Mi → Prop}
theorem ian_5 (y : Int) : ian y 31 = y % 32 := by
  have h0 : 0 ≤ y % 32 ∧ y % 32 < 32 := by omega
  obtain ⟨r, hr⟩ : ∃ r : Nat, y % 32 = (r : Int) := ⟨(y % 32).toNat, by omega⟩
  rw [hr]
  refine ext32 (ian_in _ _) (nat_lt31 (by omega)) (fun k hk => ?_)
  rw [b32_and, show (31 : Int) = ((2 ^ 5 - 1 : Nat) : Int) by decide, b32_nat, b32_nat, Nat.testBit_two_pow_sub_one]
  have e : (oI y).toBitVec.toNat = (y % 4294967296).toNat := by
    show (BitVec.ofInt 32 y).toNat = _
    rw [BitVec.toNat_ofInt]
    rfl
  have e2 : b32 y k = ((oI y).toBitVec.toNat).testBit k := by unfold b32; rw [BitVec.testBit_toNat]
  have e3 : r = (y % 4294967296).toNat % 2 ^ 5 := by
    rw [show (2 : Nat) ^ 5 = 32 by decide]
    omega
  rw [e2, e, e3, Nat.testBit_mod_two_pow]
  by_cases g : k < 5 <;> simp [g, hk]
/-- the script -/
def sv (G : Gl) (k : Nat) : Int := (gs G k).toInt
theorem sv_x (G : Gl) (k : Nat) : oI (sv G k) = xc G 0 ((k : Int)).toNat := by
  rw [Int.toNat_natCast]
  exact o_toI _
theorem sv_in (G : Gl) (k : Nat) : in32 (sv G k) := in32_toI _
theorem sv_lt {G : Gl} {k : Nat} (h : k < gL G) : ((k : Nat) : Int) < (xl G 0 : Int) := by
  show ((k : Nat) : Int) < ((gL G : Nat) : Int)
  omega
theorem LI.sh {T : Sh} {I : Mi} (h : LI T I) : ShM T ∧ kd T 0 = 11 ∧ 0 < nx T := by
  obtain ⟨A, tp, u, e, hK, _⟩ := h
  exact ⟨hK.2.1, kK0 hK, ltK hK (by decide)⟩
/-- the law's end -/
def LQ : Option AV → Sh → Mi → Prop := fun v T _ => v = some (aI 1) ∧ nx T ≤ 600000 ∧ sl T ≤ 7302250
theorem csum_le {T : Sh} {A : AN} (hK : KSh T A) : ∀ k, k ≤ 16 → csum A k ≤ 16384 * k := by
  intro k
  induction k with
  | zero => intro _; exact Nat.le_refl _
  | succ k ih =>
    intro hk
    have h1 := ih (by omega)
    have h2 := cap_le (hK.2.2.1 k (by omega))
    show csum A k + (A k).2.2.2 ≤ 16384 * (k + 1)
    omega
theorem LI.room {T : Sh} {I : Mi} (h : LI T I) : nx T ≤ 600000 ∧ sl T ≤ 7302250 := by
  obtain ⟨A, tp, u, e, hK, _⟩ := h
  have h1 := csum_le hK 16 (Nat.le_refl _)
  have h2 := hK.2.2.2.2
  omega
theorem law_0 {G : Gl} {d i : Nat} {T : Sh} {M : Mi} (hd : 10 ≤ d) (hi : i + 6 ≤ gL G) (hLn : gL G ≤ 3072) (h : LI T M) (kk : ∀ T2 M2, LI T2 M2 → Ev G mL_law d 978 [some (aE 0), some (aR 0), some (aR 274), some (aI ((i : Nat) : Int))] [] T2 M2 LQ) : Ev G mL_law d 176 [some (aE 0), some (aR 0), some (aR 274), some (aI ((i : Nat) : Int))] [] T M LQ := by
  have hsh := h.sh
  refine r_aload_n (pc := 176) (i := 1) dL_law_176 rfl rfl ?_
  refine r_aload_nE (pc := 177) (i := 0) dL_law_177 rfl rfl ?_
  refine r_iload_n (pc := 178) (i := 3) dL_law_178 rfl rfl ?_
  refine r_iconst (pc := 179) dL_law_179 (in32_of rfl) ?_
  refine r_iaddN (pc := 180) (c := ((i + 1 : Nat) : Int)) dL_law_180 (by unfold w32; omega) ?_
  refine r_xload (pc := 181) (e := 0) (x := sv G (i + 1)) (by decide) dL_law_181 (by omega) (sv_lt (by omega)) (sv_x G _) (sv_in G _) ?_
  refine r_aload_nE (pc := 182) (i := 0) dL_law_182 rfl rfl ?_
  refine r_iload_n (pc := 183) (i := 3) dL_law_183 rfl rfl ?_
  refine r_iconst (pc := 184) dL_law_184 (in32_of rfl) ?_
  refine r_iaddN (pc := 185) (c := ((i + 2 : Nat) : Int)) dL_law_185 (by unfold w32; omega) ?_
  refine r_xload (pc := 186) (e := 0) (x := sv G (i + 2)) (by decide) dL_law_186 (by omega) (sv_lt (by omega)) (sv_x G _) (sv_in G _) ?_
  refine r_aload_nE (pc := 187) (i := 0) dL_law_187 rfl rfl ?_
  refine r_iload_n (pc := 188) (i := 3) dL_law_188 rfl rfl ?_
  refine r_iconst (pc := 189) dL_law_189 (in32_of rfl) ?_
  refine r_iaddN (pc := 190) (c := ((i + 3 : Nat) : Int)) dL_law_190 (by unfold w32; omega) ?_
  refine r_xload (pc := 191) (e := 0) (x := sv G (i + 3)) (by decide) dL_law_191 (by omega) (sv_lt (by omega)) (sv_x G _) (sv_in G _) ?_
  refine r_aload_nE (pc := 192) (i := 0) dL_law_192 rfl rfl ?_
  refine r_iload_n (pc := 193) (i := 3) dL_law_193 rfl rfl ?_
  refine r_iconst (pc := 194) dL_law_194 (in32_of rfl) ?_
  refine r_iaddN (pc := 195) (c := ((i + 4 : Nat) : Int)) dL_law_195 (by unfold w32; omega) ?_
  refine r_xload (pc := 196) (e := 0) (x := sv G (i + 4)) (by decide) dL_law_196 (by omega) (sv_lt (by omega)) (sv_x G _) (sv_in G _) ?_
  refine r_aload_nE (pc := 197) (i := 0) dL_law_197 rfl rfl ?_
  refine r_iload_n (pc := 198) (i := 3) dL_law_198 rfl rfl ?_
  refine r_iconst (pc := 199) dL_law_199 (in32_of rfl) ?_
  refine r_iaddN (pc := 200) (c := ((i + 5 : Nat) : Int)) dL_law_200 (by unfold w32; omega) ?_
  refine r_xload (pc := 201) (e := 0) (x := sv G (i + 5)) (by decide) dL_law_201 (by omega) (sv_lt (by omega)) (sv_x G _) (sv_in G _) ?_
  refine r_callV1 (pc := 202) (d - 1) [aI (sv G (i + 1)), aI (sv G (i + 2)), aI (sv G (i + 3)), aI (sv G (i + 4)), aI (sv G (i + 5))] dL_law_202 (CV.mk2 mk_X11_feed lk_L_13) (RC.of hsh.2.2 hsh.2.1 (by decide) rfl) rfl rfl (by omega) (Nat.le_of_ble_eq_true rfl) (Nat.le_of_ble_eq_true rfl) (p_feed h hd (fun U K v hMU hmid => ⟨_, rfl, fun _ => ?_⟩))
  refine r_aload_n (pc := 205) (i := 2) dL_law_205 rfl rfl ?_
  refine r_aload_nE (pc := 206) (i := 0) dL_law_206 rfl rfl ?_
  refine r_iload_n (pc := 207) (i := 3) dL_law_207 rfl rfl ?_
  refine r_iconst (pc := 208) dL_law_208 (in32_of rfl) ?_
  refine r_iaddN (pc := 209) (c := ((i + 1 : Nat) : Int)) dL_law_209 (by unfold w32; omega) ?_
  refine r_xload (pc := 210) (e := 0) (x := sv G (i + 1)) (by decide) dL_law_210 (by omega) (sv_lt (by omega)) (sv_x G _) (sv_in G _) ?_
  refine r_aload_nE (pc := 211) (i := 0) dL_law_211 rfl rfl ?_
  refine r_iload_n (pc := 212) (i := 3) dL_law_212 rfl rfl ?_
  refine r_iconst (pc := 213) dL_law_213 (in32_of rfl) ?_
  refine r_iaddN (pc := 214) (c := ((i + 2 : Nat) : Int)) dL_law_214 (by unfold w32; omega) ?_
  refine r_xload (pc := 215) (e := 0) (x := sv G (i + 2)) (by decide) dL_law_215 (by omega) (sv_lt (by omega)) (sv_x G _) (sv_in G _) ?_
  refine r_aload_nE (pc := 216) (i := 0) dL_law_216 rfl rfl ?_
  refine r_iload_n (pc := 217) (i := 3) dL_law_217 rfl rfl ?_
  refine r_iconst (pc := 218) dL_law_218 (in32_of rfl) ?_
  refine r_iaddN (pc := 219) (c := ((i + 3 : Nat) : Int)) dL_law_219 (by unfold w32; omega) ?_
  refine r_xload (pc := 220) (e := 0) (x := sv G (i + 3)) (by decide) dL_law_220 (by omega) (sv_lt (by omega)) (sv_x G _) (sv_in G _) ?_
  refine r_aload_nE (pc := 221) (i := 0) dL_law_221 rfl rfl ?_
  refine r_iload_n (pc := 222) (i := 3) dL_law_222 rfl rfl ?_
  refine r_iconst (pc := 223) dL_law_223 (in32_of rfl) ?_
  refine r_iaddN (pc := 224) (c := ((i + 4 : Nat) : Int)) dL_law_224 (by unfold w32; omega) ?_
  refine r_xload (pc := 225) (e := 0) (x := sv G (i + 4)) (by decide) dL_law_225 (by omega) (sv_lt (by omega)) (sv_x G _) (sv_in G _) ?_
  refine r_aload_nE (pc := 226) (i := 0) dL_law_226 rfl rfl ?_
  refine r_iload_n (pc := 227) (i := 3) dL_law_227 rfl rfl ?_
  refine r_iconst (pc := 228) dL_law_228 (in32_of rfl) ?_
  refine r_iaddN (pc := 229) (c := ((i + 5 : Nat) : Int)) dL_law_229 (by unfold w32; omega) ?_
  refine r_xload (pc := 230) (e := 0) (x := sv G (i + 5)) (by decide) dL_law_230 (by omega) (sv_lt (by omega)) (sv_x G _) (sv_in G _) ?_
  refine r_callV1 (pc := 231) (d - 1) [aI (sv G (i + 1)), aI (sv G (i + 2)), aI (sv G (i + 3)), aI (sv G (i + 4)), aI (sv G (i + 5))] dL_law_231 (CV.mk2 mk_X12_feed lk_L_17) (RC.of (ltM hMU (by decide)) (kM274 hMU) (by decide) rfl) rfl rfl (by omega) (Nat.le_of_ble_eq_true rfl) (Nat.le_of_ble_eq_true rfl) (hmid _ (fun M2 hL2 => ⟨_, rfl, fun _ => ?_⟩))
  exact r_icmp_eq (pc := 234) (tgt := 978) dL_law_234 rfl (fun _ => kk _ _ hL2) (fun c => absurd rfl c)
theorem law_1 {G : Gl} {d i : Nat} {T : Sh} {M : Mi} (hd : 10 ≤ d) (hi : i + 6 ≤ gL G) (hLn : gL G ≤ 3072) (h : LI T M) (kk : ∀ T2 M2, LI T2 M2 → Ev G mL_law d 978 [some (aE 0), some (aR 0), some (aR 274), some (aI ((i : Nat) : Int))] [] T2 M2 LQ) : Ev G mL_law d 239 [some (aE 0), some (aR 0), some (aR 274), some (aI ((i : Nat) : Int))] [] T M LQ := by
  have hsh := h.sh
  refine r_aload_n (pc := 239) (i := 1) dL_law_239 rfl rfl ?_
  refine r_aload_nE (pc := 240) (i := 0) dL_law_240 rfl rfl ?_
  refine r_iload_n (pc := 241) (i := 3) dL_law_241 rfl rfl ?_
  refine r_iconst (pc := 242) dL_law_242 (in32_of rfl) ?_
  refine r_iaddN (pc := 243) (c := ((i + 1 : Nat) : Int)) dL_law_243 (by unfold w32; omega) ?_
  refine r_xload (pc := 244) (e := 0) (x := sv G (i + 1)) (by decide) dL_law_244 (by omega) (sv_lt (by omega)) (sv_x G _) (sv_in G _) ?_
  refine r_callV1 (pc := 245) (d - 1) [aI (sv G (i + 1))] dL_law_245 (CV.mk2 mk_X11_end lk_L_18) (RC.of hsh.2.2 hsh.2.1 (by decide) rfl) rfl rfl (by omega) (Nat.le_of_ble_eq_true rfl) (Nat.le_of_ble_eq_true rfl) (p_end h hd (fun U K v hMU hmid => ⟨_, rfl, fun _ => ?_⟩))
  refine r_aload_n (pc := 248) (i := 2) dL_law_248 rfl rfl ?_
  refine r_aload_nE (pc := 249) (i := 0) dL_law_249 rfl rfl ?_
  refine r_iload_n (pc := 250) (i := 3) dL_law_250 rfl rfl ?_
  refine r_iconst (pc := 251) dL_law_251 (in32_of rfl) ?_
  refine r_iaddN (pc := 252) (c := ((i + 1 : Nat) : Int)) dL_law_252 (by unfold w32; omega) ?_
  refine r_xload (pc := 253) (e := 0) (x := sv G (i + 1)) (by decide) dL_law_253 (by omega) (sv_lt (by omega)) (sv_x G _) (sv_in G _) ?_
  refine r_callV1 (pc := 254) (d - 1) [aI (sv G (i + 1))] dL_law_254 (CV.mk2 mk_X12_end lk_L_22) (RC.of (ltM hMU (by decide)) (kM274 hMU) (by decide) rfl) rfl rfl (by omega) (Nat.le_of_ble_eq_true rfl) (Nat.le_of_ble_eq_true rfl) (hmid _ (fun M2 hL2 => ⟨_, rfl, fun _ => ?_⟩))
  exact r_icmp_eq (pc := 257) (tgt := 978) dL_law_257 rfl (fun _ => kk _ _ hL2) (fun c => absurd rfl c)
theorem law_2 {G : Gl} {d i : Nat} {T : Sh} {M : Mi} (hd : 10 ≤ d) (hi : i + 6 ≤ gL G) (hLn : gL G ≤ 3072) (h : LI T M) (kk : ∀ T2 M2, LI T2 M2 → Ev G mL_law d 978 [some (aE 0), some (aR 0), some (aR 274), some (aI ((i : Nat) : Int))] [] T2 M2 LQ) : Ev G mL_law d 262 [some (aE 0), some (aR 0), some (aR 274), some (aI ((i : Nat) : Int))] [] T M LQ := by
  have hsh := h.sh
  refine r_aload_n (pc := 262) (i := 1) dL_law_262 rfl rfl ?_
  refine r_callV1 (pc := 263) (d - 1) [] dL_law_263 (CV.mk2 mk_X11_plan lk_L_23) (RC.of hsh.2.2 hsh.2.1 (by decide) rfl) rfl rfl (by omega) (Nat.le_of_ble_eq_true rfl) (Nat.le_of_ble_eq_true rfl) (p_plan h hd (fun U K v hMU hmid => ⟨_, rfl, fun _ => ?_⟩))
  refine r_aload_n (pc := 266) (i := 2) dL_law_266 rfl rfl ?_
  refine r_callV1 (pc := 267) (d - 1) [] dL_law_267 (CV.mk2 mk_X12_plan lk_L_27) (RC.of (ltM hMU (by decide)) (kM274 hMU) (by decide) rfl) rfl rfl (by omega) (Nat.le_of_ble_eq_true rfl) (Nat.le_of_ble_eq_true rfl) (hmid _ (fun M2 hL2 => ⟨_, rfl, fun _ => ?_⟩))
  exact r_icmp_eq (pc := 270) (tgt := 978) dL_law_270 rfl (fun _ => kk _ _ hL2) (fun c => absurd rfl c)
theorem law_3 {G : Gl} {d i : Nat} {T : Sh} {M : Mi} (hd : 10 ≤ d) (hi : i + 6 ≤ gL G) (hLn : gL G ≤ 3072) (h : LI T M) (kk : ∀ T2 M2, LI T2 M2 → Ev G mL_law d 978 [some (aE 0), some (aR 0), some (aR 274), some (aI ((i : Nat) : Int))] [] T2 M2 LQ) : Ev G mL_law d 275 [some (aE 0), some (aR 0), some (aR 274), some (aI ((i : Nat) : Int))] [] T M LQ := by
  have hsh := h.sh
  refine r_aload_n (pc := 275) (i := 1) dL_law_275 rfl rfl ?_
  refine r_aload_nE (pc := 276) (i := 0) dL_law_276 rfl rfl ?_
  refine r_iload_n (pc := 277) (i := 3) dL_law_277 rfl rfl ?_
  refine r_iconst (pc := 278) dL_law_278 (in32_of rfl) ?_
  refine r_iaddN (pc := 279) (c := ((i + 1 : Nat) : Int)) dL_law_279 (by unfold w32; omega) ?_
  refine r_xload (pc := 280) (e := 0) (x := sv G (i + 1)) (by decide) dL_law_280 (by omega) (sv_lt (by omega)) (sv_x G _) (sv_in G _) ?_
  refine r_callV1 (pc := 281) (d - 1) [aI (sv G (i + 1))] dL_law_281 (CV.mk2 mk_X11_setting lk_L_28) (RC.of hsh.2.2 hsh.2.1 (by decide) rfl) rfl rfl (by omega) (Nat.le_of_ble_eq_true rfl) (Nat.le_of_ble_eq_true rfl) (p_setting h hd (fun U K v hMU hmid => ⟨_, rfl, fun _ => ?_⟩))
  refine r_aload_n (pc := 284) (i := 2) dL_law_284 rfl rfl ?_
  refine r_aload_nE (pc := 285) (i := 0) dL_law_285 rfl rfl ?_
  refine r_iload_n (pc := 286) (i := 3) dL_law_286 rfl rfl ?_
  refine r_iconst (pc := 287) dL_law_287 (in32_of rfl) ?_
  refine r_iaddN (pc := 288) (c := ((i + 1 : Nat) : Int)) dL_law_288 (by unfold w32; omega) ?_
  refine r_xload (pc := 289) (e := 0) (x := sv G (i + 1)) (by decide) dL_law_289 (by omega) (sv_lt (by omega)) (sv_x G _) (sv_in G _) ?_
  refine r_callV1 (pc := 290) (d - 1) [aI (sv G (i + 1))] dL_law_290 (CV.mk2 mk_X12_setting lk_L_31) (RC.of (ltM hMU (by decide)) (kM274 hMU) (by decide) rfl) rfl rfl (by omega) (Nat.le_of_ble_eq_true rfl) (Nat.le_of_ble_eq_true rfl) (hmid _ (fun M2 hL2 => ⟨_, rfl, fun _ => ?_⟩))
  exact r_icmp_eq (pc := 293) (tgt := 978) dL_law_293 rfl (fun _ => kk _ _ hL2) (fun c => absurd rfl c)
theorem law_4 {G : Gl} {d i : Nat} {T : Sh} {M : Mi} (hd : 10 ≤ d) (hi : i + 6 ≤ gL G) (hLn : gL G ≤ 3072) (h : LI T M) (kk : ∀ T2 M2, LI T2 M2 → Ev G mL_law d 978 [some (aE 0), some (aR 0), some (aR 274), some (aI ((i : Nat) : Int))] [] T2 M2 LQ) : Ev G mL_law d 298 [some (aE 0), some (aR 0), some (aR 274), some (aI ((i : Nat) : Int))] [] T M LQ := by
  have hsh := h.sh
  refine r_aload_n (pc := 298) (i := 1) dL_law_298 rfl rfl ?_
  refine r_callV1 (pc := 299) (d - 1) [] dL_law_299 (CV.mk2 mk_X11_begin lk_L_32) (RC.of hsh.2.2 hsh.2.1 (by decide) rfl) rfl rfl (by omega) (Nat.le_of_ble_eq_true rfl) (Nat.le_of_ble_eq_true rfl) (p_begin h hd (fun U K v hMU hmid => ⟨_, rfl, fun _ => ?_⟩))
  refine r_aload_n (pc := 302) (i := 2) dL_law_302 rfl rfl ?_
  refine r_callV1 (pc := 303) (d - 1) [] dL_law_303 (CV.mk2 mk_X12_begin lk_L_35) (RC.of (ltM hMU (by decide)) (kM274 hMU) (by decide) rfl) rfl rfl (by omega) (Nat.le_of_ble_eq_true rfl) (Nat.le_of_ble_eq_true rfl) (hmid _ (fun M2 hL2 => ⟨_, rfl, fun _ => ?_⟩))
  exact r_icmp_eq (pc := 306) (tgt := 978) dL_law_306 rfl (fun _ => kk _ _ hL2) (fun c => absurd rfl c)
theorem law_5 {G : Gl} {d i : Nat} {T : Sh} {M : Mi} (hd : 10 ≤ d) (hi : i + 6 ≤ gL G) (hLn : gL G ≤ 3072) (h : LI T M) (kk : ∀ T2 M2, LI T2 M2 → Ev G mL_law d 978 [some (aE 0), some (aR 0), some (aR 274), some (aI ((i : Nat) : Int))] [] T2 M2 LQ) : Ev G mL_law d 311 [some (aE 0), some (aR 0), some (aR 274), some (aI ((i : Nat) : Int))] [] T M LQ := by
  have hsh := h.sh
  refine r_aload_n (pc := 311) (i := 1) dL_law_311 rfl rfl ?_
  refine r_aload_nE (pc := 312) (i := 0) dL_law_312 rfl rfl ?_
  refine r_iload_n (pc := 313) (i := 3) dL_law_313 rfl rfl ?_
  refine r_iconst (pc := 314) dL_law_314 (in32_of rfl) ?_
  refine r_iaddN (pc := 315) (c := ((i + 1 : Nat) : Int)) dL_law_315 (by unfold w32; omega) ?_
  refine r_xload (pc := 316) (e := 0) (x := sv G (i + 1)) (by decide) dL_law_316 (by omega) (sv_lt (by omega)) (sv_x G _) (sv_in G _) ?_
  refine r_aload_nE (pc := 317) (i := 0) dL_law_317 rfl rfl ?_
  refine r_iload_n (pc := 318) (i := 3) dL_law_318 rfl rfl ?_
  refine r_iconst (pc := 319) dL_law_319 (in32_of rfl) ?_
  refine r_iaddN (pc := 320) (c := ((i + 2 : Nat) : Int)) dL_law_320 (by unfold w32; omega) ?_
  refine r_xload (pc := 321) (e := 0) (x := sv G (i + 2)) (by decide) dL_law_321 (by omega) (sv_lt (by omega)) (sv_x G _) (sv_in G _) ?_
  refine r_callV1 (pc := 322) (d - 1) [aI (sv G (i + 1)), aI (sv G (i + 2))] dL_law_322 (CV.mk2 mk_X11_signal lk_L_36) (RC.of hsh.2.2 hsh.2.1 (by decide) rfl) rfl rfl (by omega) (Nat.le_of_ble_eq_true rfl) (Nat.le_of_ble_eq_true rfl) (p_signal h hd (fun U K v hMU hmid => ⟨_, rfl, fun _ => ?_⟩))
  refine r_aload_n (pc := 325) (i := 2) dL_law_325 rfl rfl ?_
  refine r_aload_nE (pc := 326) (i := 0) dL_law_326 rfl rfl ?_
  refine r_iload_n (pc := 327) (i := 3) dL_law_327 rfl rfl ?_
  refine r_iconst (pc := 328) dL_law_328 (in32_of rfl) ?_
  refine r_iaddN (pc := 329) (c := ((i + 1 : Nat) : Int)) dL_law_329 (by unfold w32; omega) ?_
  refine r_xload (pc := 330) (e := 0) (x := sv G (i + 1)) (by decide) dL_law_330 (by omega) (sv_lt (by omega)) (sv_x G _) (sv_in G _) ?_
  refine r_aload_nE (pc := 331) (i := 0) dL_law_331 rfl rfl ?_
  refine r_iload_n (pc := 332) (i := 3) dL_law_332 rfl rfl ?_
  refine r_iconst (pc := 333) dL_law_333 (in32_of rfl) ?_
  refine r_iaddN (pc := 334) (c := ((i + 2 : Nat) : Int)) dL_law_334 (by unfold w32; omega) ?_
  refine r_xload (pc := 335) (e := 0) (x := sv G (i + 2)) (by decide) dL_law_335 (by omega) (sv_lt (by omega)) (sv_x G _) (sv_in G _) ?_
  refine r_callV1 (pc := 336) (d - 1) [aI (sv G (i + 1)), aI (sv G (i + 2))] dL_law_336 (CV.mk2 mk_X12_signal lk_L_40) (RC.of (ltM hMU (by decide)) (kM274 hMU) (by decide) rfl) rfl rfl (by omega) (Nat.le_of_ble_eq_true rfl) (Nat.le_of_ble_eq_true rfl) (hmid _ (fun M2 hL2 => ⟨_, rfl, fun _ => ?_⟩))
  exact r_icmp_eq (pc := 339) (tgt := 978) dL_law_339 rfl (fun _ => kk _ _ hL2) (fun c => absurd rfl c)
theorem law_6 {G : Gl} {d i : Nat} {T : Sh} {M : Mi} (hd : 10 ≤ d) (hi : i + 6 ≤ gL G) (hLn : gL G ≤ 3072) (h : LI T M) (kk : ∀ T2 M2, LI T2 M2 → Ev G mL_law d 978 [some (aE 0), some (aR 0), some (aR 274), some (aI ((i : Nat) : Int))] [] T2 M2 LQ) : Ev G mL_law d 344 [some (aE 0), some (aR 0), some (aR 274), some (aI ((i : Nat) : Int))] [] T M LQ := by
  have hsh := h.sh
  refine r_aload_n (pc := 344) (i := 1) dL_law_344 rfl rfl ?_
  refine r_aload_nE (pc := 345) (i := 0) dL_law_345 rfl rfl ?_
  refine r_iload_n (pc := 346) (i := 3) dL_law_346 rfl rfl ?_
  refine r_iconst (pc := 347) dL_law_347 (in32_of rfl) ?_
  refine r_iaddN (pc := 348) (c := ((i + 1 : Nat) : Int)) dL_law_348 (by unfold w32; omega) ?_
  refine r_xload (pc := 349) (e := 0) (x := sv G (i + 1)) (by decide) dL_law_349 (by omega) (sv_lt (by omega)) (sv_x G _) (sv_in G _) ?_
  refine r_aload_nE (pc := 350) (i := 0) dL_law_350 rfl rfl ?_
  refine r_iload_n (pc := 351) (i := 3) dL_law_351 rfl rfl ?_
  refine r_iconst (pc := 352) dL_law_352 (in32_of rfl) ?_
  refine r_iaddN (pc := 353) (c := ((i + 2 : Nat) : Int)) dL_law_353 (by unfold w32; omega) ?_
  refine r_xload (pc := 354) (e := 0) (x := sv G (i + 2)) (by decide) dL_law_354 (by omega) (sv_lt (by omega)) (sv_x G _) (sv_in G _) ?_
  refine r_callV1 (pc := 355) (d - 1) [aI (sv G (i + 1)), aI (sv G (i + 2))] dL_law_355 (CV.mk2 mk_X11_key lk_L_41) (RC.of hsh.2.2 hsh.2.1 (by decide) rfl) rfl rfl (by omega) (Nat.le_of_ble_eq_true rfl) (Nat.le_of_ble_eq_true rfl) (p_key h hd (fun U K v hMU hmid => ⟨_, rfl, fun _ => ?_⟩))
  refine r_aload_n (pc := 358) (i := 2) dL_law_358 rfl rfl ?_
  refine r_aload_nE (pc := 359) (i := 0) dL_law_359 rfl rfl ?_
  refine r_iload_n (pc := 360) (i := 3) dL_law_360 rfl rfl ?_
  refine r_iconst (pc := 361) dL_law_361 (in32_of rfl) ?_
  refine r_iaddN (pc := 362) (c := ((i + 1 : Nat) : Int)) dL_law_362 (by unfold w32; omega) ?_
  refine r_xload (pc := 363) (e := 0) (x := sv G (i + 1)) (by decide) dL_law_363 (by omega) (sv_lt (by omega)) (sv_x G _) (sv_in G _) ?_
  refine r_aload_nE (pc := 364) (i := 0) dL_law_364 rfl rfl ?_
  refine r_iload_n (pc := 365) (i := 3) dL_law_365 rfl rfl ?_
  refine r_iconst (pc := 366) dL_law_366 (in32_of rfl) ?_
  refine r_iaddN (pc := 367) (c := ((i + 2 : Nat) : Int)) dL_law_367 (by unfold w32; omega) ?_
  refine r_xload (pc := 368) (e := 0) (x := sv G (i + 2)) (by decide) dL_law_368 (by omega) (sv_lt (by omega)) (sv_x G _) (sv_in G _) ?_
  refine r_callV1 (pc := 369) (d - 1) [aI (sv G (i + 1)), aI (sv G (i + 2))] dL_law_369 (CV.mk2 mk_X12_key lk_L_44) (RC.of (ltM hMU (by decide)) (kM274 hMU) (by decide) rfl) rfl rfl (by omega) (Nat.le_of_ble_eq_true rfl) (Nat.le_of_ble_eq_true rfl) (hmid _ (fun M2 hL2 => ⟨_, rfl, fun _ => ?_⟩))
  exact r_icmp_eq (pc := 372) (tgt := 978) dL_law_372 rfl (fun _ => kk _ _ hL2) (fun c => absurd rfl c)
theorem law_7 {G : Gl} {d i : Nat} {T : Sh} {M : Mi} (hd : 10 ≤ d) (hi : i + 6 ≤ gL G) (hLn : gL G ≤ 3072) (h : LI T M) (kk : ∀ T2 M2, LI T2 M2 → Ev G mL_law d 978 [some (aE 0), some (aR 0), some (aR 274), some (aI ((i : Nat) : Int))] [] T2 M2 LQ) : Ev G mL_law d 377 [some (aE 0), some (aR 0), some (aR 274), some (aI ((i : Nat) : Int))] [] T M LQ := by
  have hsh := h.sh
  refine r_aload_n (pc := 377) (i := 1) dL_law_377 rfl rfl ?_
  refine r_callV1 (pc := 378) (d - 1) [] dL_law_378 (CV.mk2 mk_X11_sample lk_L_45) (RC.of hsh.2.2 hsh.2.1 (by decide) rfl) rfl rfl (by omega) (Nat.le_of_ble_eq_true rfl) (Nat.le_of_ble_eq_true rfl) (p_sample h hd (fun U K v hMU hmid => ⟨_, rfl, fun _ => ?_⟩))
  refine r_aload_n (pc := 381) (i := 2) dL_law_381 rfl rfl ?_
  refine r_callV1 (pc := 382) (d - 1) [] dL_law_382 (CV.mk2 mk_X12_sample lk_L_48) (RC.of (ltM hMU (by decide)) (kM274 hMU) (by decide) rfl) rfl rfl (by omega) (Nat.le_of_ble_eq_true rfl) (Nat.le_of_ble_eq_true rfl) (hmid _ (fun M2 hL2 => ⟨_, rfl, fun _ => ?_⟩))
  exact r_icmp_eq (pc := 385) (tgt := 978) dL_law_385 rfl (fun _ => kk _ _ hL2) (fun c => absurd rfl c)
theorem law_8 {G : Gl} {d i : Nat} {T : Sh} {M : Mi} (hd : 10 ≤ d) (hi : i + 6 ≤ gL G) (hLn : gL G ≤ 3072) (h : LI T M) (kk : ∀ T2 M2, LI T2 M2 → Ev G mL_law d 978 [some (aE 0), some (aR 0), some (aR 274), some (aI ((i : Nat) : Int))] [] T2 M2 LQ) : Ev G mL_law d 390 [some (aE 0), some (aR 0), some (aR 274), some (aI ((i : Nat) : Int))] [] T M LQ := by
  have hsh := h.sh
  refine r_aload_n (pc := 390) (i := 1) dL_law_390 rfl rfl ?_
  refine r_callV1 (pc := 391) (d - 1) [] dL_law_391 (CV.mk2 mk_X11_pass lk_L_49) (RC.of hsh.2.2 hsh.2.1 (by decide) rfl) rfl rfl (by omega) (Nat.le_of_ble_eq_true rfl) (Nat.le_of_ble_eq_true rfl) (p_pass h hd (fun U K v hMU hmid => ⟨_, rfl, fun _ => ?_⟩))
  refine r_aload_n (pc := 394) (i := 2) dL_law_394 rfl rfl ?_
  refine r_callV1 (pc := 395) (d - 1) [] dL_law_395 (CV.mk2 mk_X12_pass lk_L_52) (RC.of (ltM hMU (by decide)) (kM274 hMU) (by decide) rfl) rfl rfl (by omega) (Nat.le_of_ble_eq_true rfl) (Nat.le_of_ble_eq_true rfl) (hmid _ (fun M2 hL2 => ⟨_, rfl, fun _ => ?_⟩))
  exact r_icmp_eq (pc := 398) (tgt := 978) dL_law_398 rfl (fun _ => kk _ _ hL2) (fun c => absurd rfl c)
theorem law_9 {G : Gl} {d i : Nat} {T : Sh} {M : Mi} (hd : 10 ≤ d) (hi : i + 6 ≤ gL G) (hLn : gL G ≤ 3072) (h : LI T M) (kk : ∀ T2 M2, LI T2 M2 → Ev G mL_law d 978 [some (aE 0), some (aR 0), some (aR 274), some (aI ((i : Nat) : Int))] [] T2 M2 LQ) : Ev G mL_law d 403 [some (aE 0), some (aR 0), some (aR 274), some (aI ((i : Nat) : Int))] [] T M LQ := by
  have hsh := h.sh
  refine r_aload_n (pc := 403) (i := 1) dL_law_403 rfl rfl ?_
  refine r_callV1 (pc := 404) (d - 1) [] dL_law_404 (CV.mk2 mk_X11_check lk_L_53) (RC.of hsh.2.2 hsh.2.1 (by decide) rfl) rfl rfl (by omega) (Nat.le_of_ble_eq_true rfl) (Nat.le_of_ble_eq_true rfl) (p_check h hd (fun U K v hMU hmid => ⟨_, rfl, fun _ => ?_⟩))
  refine r_aload_n (pc := 407) (i := 2) dL_law_407 rfl rfl ?_
  refine r_callV1 (pc := 408) (d - 1) [] dL_law_408 (CV.mk2 mk_X12_check lk_L_56) (RC.of (ltM hMU (by decide)) (kM274 hMU) (by decide) rfl) rfl rfl (by omega) (Nat.le_of_ble_eq_true rfl) (Nat.le_of_ble_eq_true rfl) (hmid _ (fun M2 hL2 => ⟨_, rfl, fun _ => ?_⟩))
  exact r_icmp_eq (pc := 411) (tgt := 978) dL_law_411 rfl (fun _ => kk _ _ hL2) (fun c => absurd rfl c)
theorem law_10 {G : Gl} {d i : Nat} {T : Sh} {M : Mi} (hd : 10 ≤ d) (hi : i + 6 ≤ gL G) (hLn : gL G ≤ 3072) (h : LI T M) (kk : ∀ T2 M2, LI T2 M2 → Ev G mL_law d 978 [some (aE 0), some (aR 0), some (aR 274), some (aI ((i : Nat) : Int))] [] T2 M2 LQ) : Ev G mL_law d 416 [some (aE 0), some (aR 0), some (aR 274), some (aI ((i : Nat) : Int))] [] T M LQ := by
  have hsh := h.sh
  refine r_aload_n (pc := 416) (i := 1) dL_law_416 rfl rfl ?_
  refine r_callV1 (pc := 417) (d - 1) [] dL_law_417 (CV.mk2 mk_X11_winnow lk_L_57) (RC.of hsh.2.2 hsh.2.1 (by decide) rfl) rfl rfl (by omega) (Nat.le_of_ble_eq_true rfl) (Nat.le_of_ble_eq_true rfl) (p_winnow h hd (fun U K v hMU hmid => ⟨_, rfl, fun _ => ?_⟩))
  refine r_aload_n (pc := 420) (i := 2) dL_law_420 rfl rfl ?_
  refine r_callV1 (pc := 421) (d - 1) [] dL_law_421 (CV.mk2 mk_X12_winnow lk_L_60) (RC.of (ltM hMU (by decide)) (kM274 hMU) (by decide) rfl) rfl rfl (by omega) (Nat.le_of_ble_eq_true rfl) (Nat.le_of_ble_eq_true rfl) (hmid _ (fun M2 hL2 => ⟨_, rfl, fun _ => ?_⟩))
  exact r_icmp_eq (pc := 424) (tgt := 978) dL_law_424 rfl (fun _ => kk _ _ hL2) (fun c => absurd rfl c)
theorem law_11 {G : Gl} {d i : Nat} {T : Sh} {M : Mi} (hd : 10 ≤ d) (hi : i + 6 ≤ gL G) (hLn : gL G ≤ 3072) (h : LI T M) (kk : ∀ T2 M2, LI T2 M2 → Ev G mL_law d 978 [some (aE 0), some (aR 0), some (aR 274), some (aI ((i : Nat) : Int))] [] T2 M2 LQ) : Ev G mL_law d 429 [some (aE 0), some (aR 0), some (aR 274), some (aI ((i : Nat) : Int))] [] T M LQ := by
  have hsh := h.sh
  refine r_aload_n (pc := 429) (i := 1) dL_law_429 rfl rfl ?_
  refine r_aload_nE (pc := 430) (i := 0) dL_law_430 rfl rfl ?_
  refine r_iload_n (pc := 431) (i := 3) dL_law_431 rfl rfl ?_
  refine r_iconst (pc := 432) dL_law_432 (in32_of rfl) ?_
  refine r_iaddN (pc := 433) (c := ((i + 1 : Nat) : Int)) dL_law_433 (by unfold w32; omega) ?_
  refine r_xload (pc := 434) (e := 0) (x := sv G (i + 1)) (by decide) dL_law_434 (by omega) (sv_lt (by omega)) (sv_x G _) (sv_in G _) ?_
  refine r_callV1 (pc := 435) (d - 1) [aI (sv G (i + 1))] dL_law_435 (CV.mk2 mk_X11_send lk_L_61) (RC.of hsh.2.2 hsh.2.1 (by decide) rfl) rfl rfl (by omega) (Nat.le_of_ble_eq_true rfl) (Nat.le_of_ble_eq_true rfl) (p_send h hd (fun U K v hMU hmid => ⟨_, rfl, fun _ => ?_⟩))
  refine r_aload_n (pc := 438) (i := 2) dL_law_438 rfl rfl ?_
  refine r_aload_nE (pc := 439) (i := 0) dL_law_439 rfl rfl ?_
  refine r_iload_n (pc := 440) (i := 3) dL_law_440 rfl rfl ?_
  refine r_iconst (pc := 441) dL_law_441 (in32_of rfl) ?_
  refine r_iaddN (pc := 442) (c := ((i + 1 : Nat) : Int)) dL_law_442 (by unfold w32; omega) ?_
  refine r_xload (pc := 443) (e := 0) (x := sv G (i + 1)) (by decide) dL_law_443 (by omega) (sv_lt (by omega)) (sv_x G _) (sv_in G _) ?_
  refine r_callV1 (pc := 444) (d - 1) [aI (sv G (i + 1))] dL_law_444 (CV.mk2 mk_X12_send lk_L_64) (RC.of (ltM hMU (by decide)) (kM274 hMU) (by decide) rfl) rfl rfl (by omega) (Nat.le_of_ble_eq_true rfl) (Nat.le_of_ble_eq_true rfl) (hmid _ (fun M2 hL2 => ⟨_, rfl, fun _ => ?_⟩))
  exact r_icmp_eq (pc := 447) (tgt := 978) dL_law_447 rfl (fun _ => kk _ _ hL2) (fun c => absurd rfl c)
theorem law_12 {G : Gl} {d i : Nat} {T : Sh} {M : Mi} (hd : 10 ≤ d) (hi : i + 6 ≤ gL G) (hLn : gL G ≤ 3072) (h : LI T M) (kk : ∀ T2 M2, LI T2 M2 → Ev G mL_law d 978 [some (aE 0), some (aR 0), some (aR 274), some (aI ((i : Nat) : Int))] [] T2 M2 LQ) : Ev G mL_law d 452 [some (aE 0), some (aR 0), some (aR 274), some (aI ((i : Nat) : Int))] [] T M LQ := by
  have hsh := h.sh
  refine r_aload_n (pc := 452) (i := 1) dL_law_452 rfl rfl ?_
  refine r_callV1 (pc := 453) (d - 1) [] dL_law_453 (CV.mk2 mk_X11_shorten lk_L_65) (RC.of hsh.2.2 hsh.2.1 (by decide) rfl) rfl rfl (by omega) (Nat.le_of_ble_eq_true rfl) (Nat.le_of_ble_eq_true rfl) (p_shorten h hd (fun U K v hMU hmid => ⟨_, rfl, fun _ => ?_⟩))
  refine r_aload_n (pc := 456) (i := 2) dL_law_456 rfl rfl ?_
  refine r_callV1 (pc := 457) (d - 1) [] dL_law_457 (CV.mk2 mk_X12_shorten lk_L_68) (RC.of (ltM hMU (by decide)) (kM274 hMU) (by decide) rfl) rfl rfl (by omega) (Nat.le_of_ble_eq_true rfl) (Nat.le_of_ble_eq_true rfl) (hmid _ (fun M2 hL2 => ⟨_, rfl, fun _ => ?_⟩))
  exact r_icmp_eq (pc := 460) (tgt := 978) dL_law_460 rfl (fun _ => kk _ _ hL2) (fun c => absurd rfl c)
theorem law_13 {G : Gl} {d i : Nat} {T : Sh} {M : Mi} (hd : 10 ≤ d) (hi : i + 6 ≤ gL G) (hLn : gL G ≤ 3072) (h : LI T M) (kk : ∀ T2 M2, LI T2 M2 → Ev G mL_law d 978 [some (aE 0), some (aR 0), some (aR 274), some (aI ((i : Nat) : Int))] [] T2 M2 LQ) : Ev G mL_law d 465 [some (aE 0), some (aR 0), some (aR 274), some (aI ((i : Nat) : Int))] [] T M LQ := by
  have hsh := h.sh
  refine r_aload_n (pc := 465) (i := 1) dL_law_465 rfl rfl ?_
  refine r_aload_nE (pc := 466) (i := 0) dL_law_466 rfl rfl ?_
  refine r_iload_n (pc := 467) (i := 3) dL_law_467 rfl rfl ?_
  refine r_iconst (pc := 468) dL_law_468 (in32_of rfl) ?_
  refine r_iaddN (pc := 469) (c := ((i + 1 : Nat) : Int)) dL_law_469 (by unfold w32; omega) ?_
  refine r_xload (pc := 470) (e := 0) (x := sv G (i + 1)) (by decide) dL_law_470 (by omega) (sv_lt (by omega)) (sv_x G _) (sv_in G _) ?_
  refine r_callV1 (pc := 471) (d - 1) [aI (sv G (i + 1))] dL_law_471 (CV.mk2 mk_X11_slip lk_L_69) (RC.of hsh.2.2 hsh.2.1 (by decide) rfl) rfl rfl (by omega) (Nat.le_of_ble_eq_true rfl) (Nat.le_of_ble_eq_true rfl) (p_slip h hd (fun U K v hMU hmid => ⟨_, rfl, fun _ => ?_⟩))
  refine r_aload_n (pc := 474) (i := 2) dL_law_474 rfl rfl ?_
  refine r_aload_nE (pc := 475) (i := 0) dL_law_475 rfl rfl ?_
  refine r_iload_n (pc := 476) (i := 3) dL_law_476 rfl rfl ?_
  refine r_iconst (pc := 477) dL_law_477 (in32_of rfl) ?_
  refine r_iaddN (pc := 478) (c := ((i + 1 : Nat) : Int)) dL_law_478 (by unfold w32; omega) ?_
  refine r_xload (pc := 479) (e := 0) (x := sv G (i + 1)) (by decide) dL_law_479 (by omega) (sv_lt (by omega)) (sv_x G _) (sv_in G _) ?_
  refine r_callV1 (pc := 480) (d - 1) [aI (sv G (i + 1))] dL_law_480 (CV.mk2 mk_X12_slip lk_L_72) (RC.of (ltM hMU (by decide)) (kM274 hMU) (by decide) rfl) rfl rfl (by omega) (Nat.le_of_ble_eq_true rfl) (Nat.le_of_ble_eq_true rfl) (hmid _ (fun M2 hL2 => ⟨_, rfl, fun _ => ?_⟩))
  exact r_icmp_eq (pc := 483) (tgt := 978) dL_law_483 rfl (fun _ => kk _ _ hL2) (fun c => absurd rfl c)
theorem law_14 {G : Gl} {d i : Nat} {T : Sh} {M : Mi} (hd : 10 ≤ d) (hi : i + 6 ≤ gL G) (hLn : gL G ≤ 3072) (h : LI T M) (kk : ∀ T2 M2, LI T2 M2 → Ev G mL_law d 978 [some (aE 0), some (aR 0), some (aR 274), some (aI ((i : Nat) : Int))] [] T2 M2 LQ) : Ev G mL_law d 488 [some (aE 0), some (aR 0), some (aR 274), some (aI ((i : Nat) : Int))] [] T M LQ := by
  have hsh := h.sh
  refine r_aload_n (pc := 488) (i := 1) dL_law_488 rfl rfl ?_
  refine r_callV1 (pc := 489) (d - 1) [] dL_law_489 (CV.mk2 mk_X11_undo lk_L_73) (RC.of hsh.2.2 hsh.2.1 (by decide) rfl) rfl rfl (by omega) (Nat.le_of_ble_eq_true rfl) (Nat.le_of_ble_eq_true rfl) (p_undo h hd (fun U K v hMU hmid => ⟨_, rfl, fun _ => ?_⟩))
  refine r_aload_n (pc := 492) (i := 2) dL_law_492 rfl rfl ?_
  refine r_callV1 (pc := 493) (d - 1) [] dL_law_493 (CV.mk2 mk_X12_undo lk_L_76) (RC.of (ltM hMU (by decide)) (kM274 hMU) (by decide) rfl) rfl rfl (by omega) (Nat.le_of_ble_eq_true rfl) (Nat.le_of_ble_eq_true rfl) (hmid _ (fun M2 hL2 => ⟨_, rfl, fun _ => ?_⟩))
  exact r_icmp_eq (pc := 496) (tgt := 978) dL_law_496 rfl (fun _ => kk _ _ hL2) (fun c => absurd rfl c)
theorem law_15 {G : Gl} {d i : Nat} {T : Sh} {M : Mi} (hd : 10 ≤ d) (hi : i + 6 ≤ gL G) (hLn : gL G ≤ 3072) (h : LI T M) (kk : ∀ T2 M2, LI T2 M2 → Ev G mL_law d 978 [some (aE 0), some (aR 0), some (aR 274), some (aI ((i : Nat) : Int))] [] T2 M2 LQ) : Ev G mL_law d 501 [some (aE 0), some (aR 0), some (aR 274), some (aI ((i : Nat) : Int))] [] T M LQ := by
  have hsh := h.sh
  refine r_aload_n (pc := 501) (i := 1) dL_law_501 rfl rfl ?_
  refine r_aload_nE (pc := 502) (i := 0) dL_law_502 rfl rfl ?_
  refine r_iload_n (pc := 503) (i := 3) dL_law_503 rfl rfl ?_
  refine r_iconst (pc := 504) dL_law_504 (in32_of rfl) ?_
  refine r_iaddN (pc := 505) (c := ((i + 1 : Nat) : Int)) dL_law_505 (by unfold w32; omega) ?_
  refine r_xload (pc := 506) (e := 0) (x := sv G (i + 1)) (by decide) dL_law_506 (by omega) (sv_lt (by omega)) (sv_x G _) (sv_in G _) ?_
  refine r_aload_nE (pc := 507) (i := 0) dL_law_507 rfl rfl ?_
  refine r_iload_n (pc := 508) (i := 3) dL_law_508 rfl rfl ?_
  refine r_iconst (pc := 509) dL_law_509 (in32_of rfl) ?_
  refine r_iaddN (pc := 510) (c := ((i + 2 : Nat) : Int)) dL_law_510 (by unfold w32; omega) ?_
  refine r_xload (pc := 511) (e := 0) (x := sv G (i + 2)) (by decide) dL_law_511 (by omega) (sv_lt (by omega)) (sv_x G _) (sv_in G _) ?_
  refine r_callV1 (pc := 512) (d - 1) [aI (sv G (i + 1)), aI (sv G (i + 2))] dL_law_512 (CV.mk2 mk_X11_order lk_L_77) (RC.of hsh.2.2 hsh.2.1 (by decide) rfl) rfl rfl (by omega) (Nat.le_of_ble_eq_true rfl) (Nat.le_of_ble_eq_true rfl) (p_order h hd (fun U K v hMU hmid => ⟨_, rfl, fun _ => ?_⟩))
  refine r_aload_n (pc := 515) (i := 2) dL_law_515 rfl rfl ?_
  refine r_aload_nE (pc := 516) (i := 0) dL_law_516 rfl rfl ?_
  refine r_iload_n (pc := 517) (i := 3) dL_law_517 rfl rfl ?_
  refine r_iconst (pc := 518) dL_law_518 (in32_of rfl) ?_
  refine r_iaddN (pc := 519) (c := ((i + 1 : Nat) : Int)) dL_law_519 (by unfold w32; omega) ?_
  refine r_xload (pc := 520) (e := 0) (x := sv G (i + 1)) (by decide) dL_law_520 (by omega) (sv_lt (by omega)) (sv_x G _) (sv_in G _) ?_
  refine r_aload_nE (pc := 521) (i := 0) dL_law_521 rfl rfl ?_
  refine r_iload_n (pc := 522) (i := 3) dL_law_522 rfl rfl ?_
  refine r_iconst (pc := 523) dL_law_523 (in32_of rfl) ?_
  refine r_iaddN (pc := 524) (c := ((i + 2 : Nat) : Int)) dL_law_524 (by unfold w32; omega) ?_
  refine r_xload (pc := 525) (e := 0) (x := sv G (i + 2)) (by decide) dL_law_525 (by omega) (sv_lt (by omega)) (sv_x G _) (sv_in G _) ?_
  refine r_callV1 (pc := 526) (d - 1) [aI (sv G (i + 1)), aI (sv G (i + 2))] dL_law_526 (CV.mk2 mk_X12_order lk_L_80) (RC.of (ltM hMU (by decide)) (kM274 hMU) (by decide) rfl) rfl rfl (by omega) (Nat.le_of_ble_eq_true rfl) (Nat.le_of_ble_eq_true rfl) (hmid _ (fun M2 hL2 => ⟨_, rfl, fun _ => ?_⟩))
  exact r_icmp_eq (pc := 529) (tgt := 978) dL_law_529 rfl (fun _ => kk _ _ hL2) (fun c => absurd rfl c)
theorem law_16 {G : Gl} {d i : Nat} {T : Sh} {M : Mi} (hd : 10 ≤ d) (hi : i + 6 ≤ gL G) (hLn : gL G ≤ 3072) (h : LI T M) (kk : ∀ T2 M2, LI T2 M2 → Ev G mL_law d 978 [some (aE 0), some (aR 0), some (aR 274), some (aI ((i : Nat) : Int))] [] T2 M2 LQ) : Ev G mL_law d 534 [some (aE 0), some (aR 0), some (aR 274), some (aI ((i : Nat) : Int))] [] T M LQ := by
  have hsh := h.sh
  refine r_aload_n (pc := 534) (i := 1) dL_law_534 rfl rfl ?_
  refine r_aload_nE (pc := 535) (i := 0) dL_law_535 rfl rfl ?_
  refine r_iload_n (pc := 536) (i := 3) dL_law_536 rfl rfl ?_
  refine r_iconst (pc := 537) dL_law_537 (in32_of rfl) ?_
  refine r_iaddN (pc := 538) (c := ((i + 1 : Nat) : Int)) dL_law_538 (by unfold w32; omega) ?_
  refine r_xload (pc := 539) (e := 0) (x := sv G (i + 1)) (by decide) dL_law_539 (by omega) (sv_lt (by omega)) (sv_x G _) (sv_in G _) ?_
  refine r_aload_nE (pc := 540) (i := 0) dL_law_540 rfl rfl ?_
  refine r_iload_n (pc := 541) (i := 3) dL_law_541 rfl rfl ?_
  refine r_iconst (pc := 542) dL_law_542 (in32_of rfl) ?_
  refine r_iaddN (pc := 543) (c := ((i + 2 : Nat) : Int)) dL_law_543 (by unfold w32; omega) ?_
  refine r_xload (pc := 544) (e := 0) (x := sv G (i + 2)) (by decide) dL_law_544 (by omega) (sv_lt (by omega)) (sv_x G _) (sv_in G _) ?_
  refine r_callV1 (pc := 545) (d - 1) [aI (sv G (i + 1)), aI (sv G (i + 2))] dL_law_545 (CV.mk2 mk_X11_ledger lk_L_81) (RC.of hsh.2.2 hsh.2.1 (by decide) rfl) rfl rfl (by omega) (Nat.le_of_ble_eq_true rfl) (Nat.le_of_ble_eq_true rfl) (p_ledger h hd (fun U K v hMU hmid => ⟨_, rfl, fun _ => ?_⟩))
  refine r_aload_n (pc := 548) (i := 2) dL_law_548 rfl rfl ?_
  refine r_aload_nE (pc := 549) (i := 0) dL_law_549 rfl rfl ?_
  refine r_iload_n (pc := 550) (i := 3) dL_law_550 rfl rfl ?_
  refine r_iconst (pc := 551) dL_law_551 (in32_of rfl) ?_
  refine r_iaddN (pc := 552) (c := ((i + 1 : Nat) : Int)) dL_law_552 (by unfold w32; omega) ?_
  refine r_xload (pc := 553) (e := 0) (x := sv G (i + 1)) (by decide) dL_law_553 (by omega) (sv_lt (by omega)) (sv_x G _) (sv_in G _) ?_
  refine r_aload_nE (pc := 554) (i := 0) dL_law_554 rfl rfl ?_
  refine r_iload_n (pc := 555) (i := 3) dL_law_555 rfl rfl ?_
  refine r_iconst (pc := 556) dL_law_556 (in32_of rfl) ?_
  refine r_iaddN (pc := 557) (c := ((i + 2 : Nat) : Int)) dL_law_557 (by unfold w32; omega) ?_
  refine r_xload (pc := 558) (e := 0) (x := sv G (i + 2)) (by decide) dL_law_558 (by omega) (sv_lt (by omega)) (sv_x G _) (sv_in G _) ?_
  refine r_callV1 (pc := 559) (d - 1) [aI (sv G (i + 1)), aI (sv G (i + 2))] dL_law_559 (CV.mk2 mk_X12_ledger lk_L_84) (RC.of (ltM hMU (by decide)) (kM274 hMU) (by decide) rfl) rfl rfl (by omega) (Nat.le_of_ble_eq_true rfl) (Nat.le_of_ble_eq_true rfl) (hmid _ (fun M2 hL2 => ⟨_, rfl, fun _ => ?_⟩))
  exact r_icmp_eq (pc := 562) (tgt := 978) dL_law_562 rfl (fun _ => kk _ _ hL2) (fun c => absurd rfl c)
theorem law_17 {G : Gl} {d i : Nat} {T : Sh} {M : Mi} (hd : 10 ≤ d) (hi : i + 6 ≤ gL G) (hLn : gL G ≤ 3072) (h : LI T M) (kk : ∀ T2 M2, LI T2 M2 → Ev G mL_law d 978 [some (aE 0), some (aR 0), some (aR 274), some (aI ((i : Nat) : Int))] [] T2 M2 LQ) : Ev G mL_law d 567 [some (aE 0), some (aR 0), some (aR 274), some (aI ((i : Nat) : Int))] [] T M LQ := by
  have hsh := h.sh
  refine r_aload_n (pc := 567) (i := 1) dL_law_567 rfl rfl ?_
  refine r_aload_nE (pc := 568) (i := 0) dL_law_568 rfl rfl ?_
  refine r_iload_n (pc := 569) (i := 3) dL_law_569 rfl rfl ?_
  refine r_iconst (pc := 570) dL_law_570 (in32_of rfl) ?_
  refine r_iaddN (pc := 571) (c := ((i + 1 : Nat) : Int)) dL_law_571 (by unfold w32; omega) ?_
  refine r_xload (pc := 572) (e := 0) (x := sv G (i + 1)) (by decide) dL_law_572 (by omega) (sv_lt (by omega)) (sv_x G _) (sv_in G _) ?_
  refine r_aload_nE (pc := 573) (i := 0) dL_law_573 rfl rfl ?_
  refine r_iload_n (pc := 574) (i := 3) dL_law_574 rfl rfl ?_
  refine r_iconst (pc := 575) dL_law_575 (in32_of rfl) ?_
  refine r_iaddN (pc := 576) (c := ((i + 2 : Nat) : Int)) dL_law_576 (by unfold w32; omega) ?_
  refine r_xload (pc := 577) (e := 0) (x := sv G (i + 2)) (by decide) dL_law_577 (by omega) (sv_lt (by omega)) (sv_x G _) (sv_in G _) ?_
  refine r_callV1 (pc := 578) (d - 1) [aI (sv G (i + 1)), aI (sv G (i + 2))] dL_law_578 (CV.mk2 mk_X11_isIn lk_L_85) (RC.of hsh.2.2 hsh.2.1 (by decide) rfl) rfl rfl (by omega) (Nat.le_of_ble_eq_true rfl) (Nat.le_of_ble_eq_true rfl) (p_isIn h hd (fun U K v hMU hmid => ⟨_, rfl, fun _ => ?_⟩))
  refine r_aload_n (pc := 581) (i := 2) dL_law_581 rfl rfl ?_
  refine r_aload_nE (pc := 582) (i := 0) dL_law_582 rfl rfl ?_
  refine r_iload_n (pc := 583) (i := 3) dL_law_583 rfl rfl ?_
  refine r_iconst (pc := 584) dL_law_584 (in32_of rfl) ?_
  refine r_iaddN (pc := 585) (c := ((i + 1 : Nat) : Int)) dL_law_585 (by unfold w32; omega) ?_
  refine r_xload (pc := 586) (e := 0) (x := sv G (i + 1)) (by decide) dL_law_586 (by omega) (sv_lt (by omega)) (sv_x G _) (sv_in G _) ?_
  refine r_aload_nE (pc := 587) (i := 0) dL_law_587 rfl rfl ?_
  refine r_iload_n (pc := 588) (i := 3) dL_law_588 rfl rfl ?_
  refine r_iconst (pc := 589) dL_law_589 (in32_of rfl) ?_
  refine r_iaddN (pc := 590) (c := ((i + 2 : Nat) : Int)) dL_law_590 (by unfold w32; omega) ?_
  refine r_xload (pc := 591) (e := 0) (x := sv G (i + 2)) (by decide) dL_law_591 (by omega) (sv_lt (by omega)) (sv_x G _) (sv_in G _) ?_
  refine r_callV1 (pc := 592) (d - 1) [aI (sv G (i + 1)), aI (sv G (i + 2))] dL_law_592 (CV.mk2 mk_X12_isIn lk_L_88) (RC.of (ltM hMU (by decide)) (kM274 hMU) (by decide) rfl) rfl rfl (by omega) (Nat.le_of_ble_eq_true rfl) (Nat.le_of_ble_eq_true rfl) (hmid _ (fun M2 hL2 => ⟨_, rfl, fun _ => ?_⟩))
  exact r_icmp_eq (pc := 595) (tgt := 978) dL_law_595 rfl (fun _ => kk _ _ hL2) (fun c => absurd rfl c)
theorem law_18 {G : Gl} {d i : Nat} {T : Sh} {M : Mi} (hd : 10 ≤ d) (hi : i + 6 ≤ gL G) (hLn : gL G ≤ 3072) (h : LI T M) (kk : ∀ T2 M2, LI T2 M2 → Ev G mL_law d 978 [some (aE 0), some (aR 0), some (aR 274), some (aI ((i : Nat) : Int))] [] T2 M2 LQ) : Ev G mL_law d 600 [some (aE 0), some (aR 0), some (aR 274), some (aI ((i : Nat) : Int))] [] T M LQ := by
  have hsh := h.sh
  refine r_aload_n (pc := 600) (i := 1) dL_law_600 rfl rfl ?_
  refine r_callV1 (pc := 601) (d - 1) [] dL_law_601 (CV.mk2 mk_X11_rank lk_L_89) (RC.of hsh.2.2 hsh.2.1 (by decide) rfl) rfl rfl (by omega) (Nat.le_of_ble_eq_true rfl) (Nat.le_of_ble_eq_true rfl) (p_rank h hd (fun U K v hMU hmid => ⟨_, rfl, fun _ => ?_⟩))
  refine r_aload_n (pc := 604) (i := 2) dL_law_604 rfl rfl ?_
  refine r_callV1 (pc := 605) (d - 1) [] dL_law_605 (CV.mk2 mk_X12_rank lk_L_92) (RC.of (ltM hMU (by decide)) (kM274 hMU) (by decide) rfl) rfl rfl (by omega) (Nat.le_of_ble_eq_true rfl) (Nat.le_of_ble_eq_true rfl) (hmid _ (fun M2 hL2 => ⟨_, rfl, fun _ => ?_⟩))
  exact r_icmp_eq (pc := 608) (tgt := 978) dL_law_608 rfl (fun _ => kk _ _ hL2) (fun c => absurd rfl c)
theorem law_19 {G : Gl} {d i : Nat} {T : Sh} {M : Mi} (hd : 10 ≤ d) (hi : i + 6 ≤ gL G) (hLn : gL G ≤ 3072) (h : LI T M) (kk : ∀ T2 M2, LI T2 M2 → Ev G mL_law d 978 [some (aE 0), some (aR 0), some (aR 274), some (aI ((i : Nat) : Int))] [] T2 M2 LQ) : Ev G mL_law d 613 [some (aE 0), some (aR 0), some (aR 274), some (aI ((i : Nat) : Int))] [] T M LQ := by
  have hsh := h.sh
  refine r_aload_n (pc := 613) (i := 1) dL_law_613 rfl rfl ?_
  refine r_aload_nE (pc := 614) (i := 0) dL_law_614 rfl rfl ?_
  refine r_iload_n (pc := 615) (i := 3) dL_law_615 rfl rfl ?_
  refine r_iconst (pc := 616) dL_law_616 (in32_of rfl) ?_
  refine r_iaddN (pc := 617) (c := ((i + 1 : Nat) : Int)) dL_law_617 (by unfold w32; omega) ?_
  refine r_xload (pc := 618) (e := 0) (x := sv G (i + 1)) (by decide) dL_law_618 (by omega) (sv_lt (by omega)) (sv_x G _) (sv_in G _) ?_
  refine r_callV1 (pc := 619) (d - 1) [aI (sv G (i + 1))] dL_law_619 (CV.mk2 mk_X11_fixed lk_L_93) (RC.of hsh.2.2 hsh.2.1 (by decide) rfl) rfl rfl (by omega) (Nat.le_of_ble_eq_true rfl) (Nat.le_of_ble_eq_true rfl) (p_fixed h hd (fun U K v hMU hmid => ⟨_, rfl, fun _ => ?_⟩))
  refine r_aload_n (pc := 622) (i := 2) dL_law_622 rfl rfl ?_
  refine r_aload_nE (pc := 623) (i := 0) dL_law_623 rfl rfl ?_
  refine r_iload_n (pc := 624) (i := 3) dL_law_624 rfl rfl ?_
  refine r_iconst (pc := 625) dL_law_625 (in32_of rfl) ?_
  refine r_iaddN (pc := 626) (c := ((i + 1 : Nat) : Int)) dL_law_626 (by unfold w32; omega) ?_
  refine r_xload (pc := 627) (e := 0) (x := sv G (i + 1)) (by decide) dL_law_627 (by omega) (sv_lt (by omega)) (sv_x G _) (sv_in G _) ?_
  refine r_callV1 (pc := 628) (d - 1) [aI (sv G (i + 1))] dL_law_628 (CV.mk2 mk_X12_fixed lk_L_96) (RC.of (ltM hMU (by decide)) (kM274 hMU) (by decide) rfl) rfl rfl (by omega) (Nat.le_of_ble_eq_true rfl) (Nat.le_of_ble_eq_true rfl) (hmid _ (fun M2 hL2 => ⟨_, rfl, fun _ => ?_⟩))
  exact r_icmp_eq (pc := 631) (tgt := 978) dL_law_631 rfl (fun _ => kk _ _ hL2) (fun c => absurd rfl c)
theorem law_20 {G : Gl} {d i : Nat} {T : Sh} {M : Mi} (hd : 10 ≤ d) (hi : i + 6 ≤ gL G) (hLn : gL G ≤ 3072) (h : LI T M) (kk : ∀ T2 M2, LI T2 M2 → Ev G mL_law d 978 [some (aE 0), some (aR 0), some (aR 274), some (aI ((i : Nat) : Int))] [] T2 M2 LQ) : Ev G mL_law d 636 [some (aE 0), some (aR 0), some (aR 274), some (aI ((i : Nat) : Int))] [] T M LQ := by
  have hsh := h.sh
  refine r_aload_n (pc := 636) (i := 1) dL_law_636 rfl rfl ?_
  refine r_aload_nE (pc := 637) (i := 0) dL_law_637 rfl rfl ?_
  refine r_iload_n (pc := 638) (i := 3) dL_law_638 rfl rfl ?_
  refine r_iconst (pc := 639) dL_law_639 (in32_of rfl) ?_
  refine r_iaddN (pc := 640) (c := ((i + 1 : Nat) : Int)) dL_law_640 (by unfold w32; omega) ?_
  refine r_xload (pc := 641) (e := 0) (x := sv G (i + 1)) (by decide) dL_law_641 (by omega) (sv_lt (by omega)) (sv_x G _) (sv_in G _) ?_
  refine r_aload_nE (pc := 642) (i := 0) dL_law_642 rfl rfl ?_
  refine r_iload_n (pc := 643) (i := 3) dL_law_643 rfl rfl ?_
  refine r_iconst (pc := 644) dL_law_644 (in32_of rfl) ?_
  refine r_iaddN (pc := 645) (c := ((i + 2 : Nat) : Int)) dL_law_645 (by unfold w32; omega) ?_
  refine r_xload (pc := 646) (e := 0) (x := sv G (i + 2)) (by decide) dL_law_646 (by omega) (sv_lt (by omega)) (sv_x G _) (sv_in G _) ?_
  refine r_callV1 (pc := 647) (d - 1) [aI (sv G (i + 1)), aI (sv G (i + 2))] dL_law_647 (CV.mk2 mk_X11_last lk_L_97) (RC.of hsh.2.2 hsh.2.1 (by decide) rfl) rfl rfl (by omega) (Nat.le_of_ble_eq_true rfl) (Nat.le_of_ble_eq_true rfl) (p_last h hd (fun U K v hMU hmid => ⟨_, rfl, fun _ => ?_⟩))
  refine r_aload_n (pc := 650) (i := 2) dL_law_650 rfl rfl ?_
  refine r_aload_nE (pc := 651) (i := 0) dL_law_651 rfl rfl ?_
  refine r_iload_n (pc := 652) (i := 3) dL_law_652 rfl rfl ?_
  refine r_iconst (pc := 653) dL_law_653 (in32_of rfl) ?_
  refine r_iaddN (pc := 654) (c := ((i + 1 : Nat) : Int)) dL_law_654 (by unfold w32; omega) ?_
  refine r_xload (pc := 655) (e := 0) (x := sv G (i + 1)) (by decide) dL_law_655 (by omega) (sv_lt (by omega)) (sv_x G _) (sv_in G _) ?_
  refine r_aload_nE (pc := 656) (i := 0) dL_law_656 rfl rfl ?_
  refine r_iload_n (pc := 657) (i := 3) dL_law_657 rfl rfl ?_
  refine r_iconst (pc := 658) dL_law_658 (in32_of rfl) ?_
  refine r_iaddN (pc := 659) (c := ((i + 2 : Nat) : Int)) dL_law_659 (by unfold w32; omega) ?_
  refine r_xload (pc := 660) (e := 0) (x := sv G (i + 2)) (by decide) dL_law_660 (by omega) (sv_lt (by omega)) (sv_x G _) (sv_in G _) ?_
  refine r_callV1 (pc := 661) (d - 1) [aI (sv G (i + 1)), aI (sv G (i + 2))] dL_law_661 (CV.mk2 mk_X12_last lk_L_100) (RC.of (ltM hMU (by decide)) (kM274 hMU) (by decide) rfl) rfl rfl (by omega) (Nat.le_of_ble_eq_true rfl) (Nat.le_of_ble_eq_true rfl) (hmid _ (fun M2 hL2 => ⟨_, rfl, fun _ => ?_⟩))
  exact r_icmp_eq (pc := 664) (tgt := 978) dL_law_664 rfl (fun _ => kk _ _ hL2) (fun c => absurd rfl c)
theorem law_21 {G : Gl} {d i : Nat} {T : Sh} {M : Mi} (hd : 10 ≤ d) (hi : i + 6 ≤ gL G) (hLn : gL G ≤ 3072) (h : LI T M) (kk : ∀ T2 M2, LI T2 M2 → Ev G mL_law d 978 [some (aE 0), some (aR 0), some (aR 274), some (aI ((i : Nat) : Int))] [] T2 M2 LQ) : Ev G mL_law d 669 [some (aE 0), some (aR 0), some (aR 274), some (aI ((i : Nat) : Int))] [] T M LQ := by
  have hsh := h.sh
  refine r_aload_n (pc := 669) (i := 1) dL_law_669 rfl rfl ?_
  refine r_aload_nE (pc := 670) (i := 0) dL_law_670 rfl rfl ?_
  refine r_iload_n (pc := 671) (i := 3) dL_law_671 rfl rfl ?_
  refine r_iconst (pc := 672) dL_law_672 (in32_of rfl) ?_
  refine r_iaddN (pc := 673) (c := ((i + 1 : Nat) : Int)) dL_law_673 (by unfold w32; omega) ?_
  refine r_xload (pc := 674) (e := 0) (x := sv G (i + 1)) (by decide) dL_law_674 (by omega) (sv_lt (by omega)) (sv_x G _) (sv_in G _) ?_
  refine r_callV1 (pc := 675) (d - 1) [aI (sv G (i + 1))] dL_law_675 (CV.mk2 mk_X11_spied lk_L_101) (RC.of hsh.2.2 hsh.2.1 (by decide) rfl) rfl rfl (by omega) (Nat.le_of_ble_eq_true rfl) (Nat.le_of_ble_eq_true rfl) (p_spied h hd (fun U K v hMU hmid => ⟨_, rfl, fun _ => ?_⟩))
  refine r_aload_n (pc := 678) (i := 2) dL_law_678 rfl rfl ?_
  refine r_aload_nE (pc := 679) (i := 0) dL_law_679 rfl rfl ?_
  refine r_iload_n (pc := 680) (i := 3) dL_law_680 rfl rfl ?_
  refine r_iconst (pc := 681) dL_law_681 (in32_of rfl) ?_
  refine r_iaddN (pc := 682) (c := ((i + 1 : Nat) : Int)) dL_law_682 (by unfold w32; omega) ?_
  refine r_xload (pc := 683) (e := 0) (x := sv G (i + 1)) (by decide) dL_law_683 (by omega) (sv_lt (by omega)) (sv_x G _) (sv_in G _) ?_
  refine r_callV1 (pc := 684) (d - 1) [aI (sv G (i + 1))] dL_law_684 (CV.mk2 mk_X12_spied lk_L_104) (RC.of (ltM hMU (by decide)) (kM274 hMU) (by decide) rfl) rfl rfl (by omega) (Nat.le_of_ble_eq_true rfl) (Nat.le_of_ble_eq_true rfl) (hmid _ (fun M2 hL2 => ⟨_, rfl, fun _ => ?_⟩))
  exact r_icmp_eq (pc := 687) (tgt := 978) dL_law_687 rfl (fun _ => kk _ _ hL2) (fun c => absurd rfl c)
theorem law_22 {G : Gl} {d i : Nat} {T : Sh} {M : Mi} (hd : 10 ≤ d) (hi : i + 6 ≤ gL G) (hLn : gL G ≤ 3072) (h : LI T M) (kk : ∀ T2 M2, LI T2 M2 → Ev G mL_law d 978 [some (aE 0), some (aR 0), some (aR 274), some (aI ((i : Nat) : Int))] [] T2 M2 LQ) : Ev G mL_law d 692 [some (aE 0), some (aR 0), some (aR 274), some (aI ((i : Nat) : Int))] [] T M LQ := by
  have hsh := h.sh
  refine r_aload_n (pc := 692) (i := 1) dL_law_692 rfl rfl ?_
  refine r_aload_nE (pc := 693) (i := 0) dL_law_693 rfl rfl ?_
  refine r_iload_n (pc := 694) (i := 3) dL_law_694 rfl rfl ?_
  refine r_iconst (pc := 695) dL_law_695 (in32_of rfl) ?_
  refine r_iaddN (pc := 696) (c := ((i + 1 : Nat) : Int)) dL_law_696 (by unfold w32; omega) ?_
  refine r_xload (pc := 697) (e := 0) (x := sv G (i + 1)) (by decide) dL_law_697 (by omega) (sv_lt (by omega)) (sv_x G _) (sv_in G _) ?_
  refine r_aload_nE (pc := 698) (i := 0) dL_law_698 rfl rfl ?_
  refine r_iload_n (pc := 699) (i := 3) dL_law_699 rfl rfl ?_
  refine r_iconst (pc := 700) dL_law_700 (in32_of rfl) ?_
  refine r_iaddN (pc := 701) (c := ((i + 2 : Nat) : Int)) dL_law_701 (by unfold w32; omega) ?_
  refine r_xload (pc := 702) (e := 0) (x := sv G (i + 2)) (by decide) dL_law_702 (by omega) (sv_lt (by omega)) (sv_x G _) (sv_in G _) ?_
  refine r_aload_nE (pc := 703) (i := 0) dL_law_703 rfl rfl ?_
  refine r_iload_n (pc := 704) (i := 3) dL_law_704 rfl rfl ?_
  refine r_iconst (pc := 705) dL_law_705 (in32_of rfl) ?_
  refine r_iaddN (pc := 706) (c := ((i + 3 : Nat) : Int)) dL_law_706 (by unfold w32; omega) ?_
  refine r_xload (pc := 707) (e := 0) (x := sv G (i + 3)) (by decide) dL_law_707 (by omega) (sv_lt (by omega)) (sv_x G _) (sv_in G _) ?_
  refine r_callV1 (pc := 708) (d - 1) [aI (sv G (i + 1)), aI (sv G (i + 2)), aI (sv G (i + 3))] dL_law_708 (CV.mk2 mk_X11_block lk_L_105) (RC.of hsh.2.2 hsh.2.1 (by decide) rfl) rfl rfl (by omega) (Nat.le_of_ble_eq_true rfl) (Nat.le_of_ble_eq_true rfl) (p_block h hd (sv_in G _) (fun U K v hMU hmid => ⟨_, rfl, fun _ => ?_⟩))
  refine r_aload_n (pc := 711) (i := 2) dL_law_711 rfl rfl ?_
  refine r_aload_nE (pc := 712) (i := 0) dL_law_712 rfl rfl ?_
  refine r_iload_n (pc := 713) (i := 3) dL_law_713 rfl rfl ?_
  refine r_iconst (pc := 714) dL_law_714 (in32_of rfl) ?_
  refine r_iaddN (pc := 715) (c := ((i + 1 : Nat) : Int)) dL_law_715 (by unfold w32; omega) ?_
  refine r_xload (pc := 716) (e := 0) (x := sv G (i + 1)) (by decide) dL_law_716 (by omega) (sv_lt (by omega)) (sv_x G _) (sv_in G _) ?_
  refine r_aload_nE (pc := 717) (i := 0) dL_law_717 rfl rfl ?_
  refine r_iload_n (pc := 718) (i := 3) dL_law_718 rfl rfl ?_
  refine r_iconst (pc := 719) dL_law_719 (in32_of rfl) ?_
  refine r_iaddN (pc := 720) (c := ((i + 2 : Nat) : Int)) dL_law_720 (by unfold w32; omega) ?_
  refine r_xload (pc := 721) (e := 0) (x := sv G (i + 2)) (by decide) dL_law_721 (by omega) (sv_lt (by omega)) (sv_x G _) (sv_in G _) ?_
  refine r_aload_nE (pc := 722) (i := 0) dL_law_722 rfl rfl ?_
  refine r_iload_n (pc := 723) (i := 3) dL_law_723 rfl rfl ?_
  refine r_iconst (pc := 724) dL_law_724 (in32_of rfl) ?_
  refine r_iaddN (pc := 725) (c := ((i + 3 : Nat) : Int)) dL_law_725 (by unfold w32; omega) ?_
  refine r_xload (pc := 726) (e := 0) (x := sv G (i + 3)) (by decide) dL_law_726 (by omega) (sv_lt (by omega)) (sv_x G _) (sv_in G _) ?_
  refine r_callV1 (pc := 727) (d - 1) [aI (sv G (i + 1)), aI (sv G (i + 2)), aI (sv G (i + 3))] dL_law_727 (CV.mk2 mk_X12_block lk_L_109) (RC.of (ltM hMU (by decide)) (kM274 hMU) (by decide) rfl) rfl rfl (by omega) (Nat.le_of_ble_eq_true rfl) (Nat.le_of_ble_eq_true rfl) (hmid _ (fun M2 hL2 => ⟨_, rfl, fun _ => ?_⟩))
  exact r_icmp_eq (pc := 730) (tgt := 978) dL_law_730 rfl (fun _ => kk _ _ hL2) (fun c => absurd rfl c)
theorem law_23 {G : Gl} {d i : Nat} {T : Sh} {M : Mi} (hd : 10 ≤ d) (hi : i + 6 ≤ gL G) (hLn : gL G ≤ 3072) (h : LI T M) (kk : ∀ T2 M2, LI T2 M2 → Ev G mL_law d 978 [some (aE 0), some (aR 0), some (aR 274), some (aI ((i : Nat) : Int))] [] T2 M2 LQ) : Ev G mL_law d 735 [some (aE 0), some (aR 0), some (aR 274), some (aI ((i : Nat) : Int))] [] T M LQ := by
  have hsh := h.sh
  refine r_aload_n (pc := 735) (i := 1) dL_law_735 rfl rfl ?_
  refine r_aload_nE (pc := 736) (i := 0) dL_law_736 rfl rfl ?_
  refine r_iload_n (pc := 737) (i := 3) dL_law_737 rfl rfl ?_
  refine r_iconst (pc := 738) dL_law_738 (in32_of rfl) ?_
  refine r_iaddN (pc := 739) (c := ((i + 1 : Nat) : Int)) dL_law_739 (by unfold w32; omega) ?_
  refine r_xload (pc := 740) (e := 0) (x := sv G (i + 1)) (by decide) dL_law_740 (by omega) (sv_lt (by omega)) (sv_x G _) (sv_in G _) ?_
  refine r_if_eq (pc := 741) (tgt := 748) dL_law_741 rfl (fun c0 => ?_) (fun c0 => ?_)
  · skip
    refine r_iconst (pc := 748) dL_law_748 (in32_of rfl) ?_
    refine r_callV1 (pc := 749) (d - 1) [aI 0] dL_law_749 (CV.mk2 mk_X11_secret lk_L_110) (RC.of hsh.2.2 hsh.2.1 (by decide) rfl) rfl rfl (by omega) (Nat.le_of_ble_eq_true rfl) (Nat.le_of_ble_eq_true rfl) (p_secret h hd (fun U K v hMU hmid => ⟨_, rfl, fun _ => ?_⟩))
    refine r_aload_n (pc := 752) (i := 2) dL_law_752 rfl rfl ?_
    refine r_aload_nE (pc := 753) (i := 0) dL_law_753 rfl rfl ?_
    refine r_iload_n (pc := 754) (i := 3) dL_law_754 rfl rfl ?_
    refine r_iconst (pc := 755) dL_law_755 (in32_of rfl) ?_
    refine r_iaddN (pc := 756) (c := ((i + 1 : Nat) : Int)) dL_law_756 (by unfold w32; omega) ?_
    refine r_xload (pc := 757) (e := 0) (x := sv G (i + 1)) (by decide) dL_law_757 (by omega) (sv_lt (by omega)) (sv_x G _) (sv_in G _) ?_
    refine r_if_eq (pc := 758) (tgt := 765) dL_law_758 rfl (fun c1 => ?_) (fun c1 => absurd c0 c1)
    refine r_iconst (pc := 765) dL_law_765 (in32_of rfl) ?_
    refine r_callV1 (pc := 766) (d - 1) [aI 0] dL_law_766 (CV.mk2 mk_X12_secret lk_L_114) (RC.of (ltM hMU (by decide)) (kM274 hMU) (by decide) rfl) rfl rfl (by omega) (Nat.le_of_ble_eq_true rfl) (Nat.le_of_ble_eq_true rfl) (hmid _ (fun M2 hL2 => ⟨_, rfl, fun _ => ?_⟩))
    exact r_icmp_eq (pc := 769) (tgt := 978) dL_law_769 rfl (fun _ => kk _ _ hL2) (fun c => absurd rfl c)
  · skip
    refine r_iconst (pc := 744) dL_law_744 (in32_of rfl) ?_
    refine r_goto (pc := 745) (tgt := 749) dL_law_745 rfl ?_
    refine r_callV1 (pc := 749) (d - 1) [aI 1] dL_law_749 (CV.mk2 mk_X11_secret lk_L_110) (RC.of hsh.2.2 hsh.2.1 (by decide) rfl) rfl rfl (by omega) (Nat.le_of_ble_eq_true rfl) (Nat.le_of_ble_eq_true rfl) (p_secret h hd (fun U K v hMU hmid => ⟨_, rfl, fun _ => ?_⟩))
    refine r_aload_n (pc := 752) (i := 2) dL_law_752 rfl rfl ?_
    refine r_aload_nE (pc := 753) (i := 0) dL_law_753 rfl rfl ?_
    refine r_iload_n (pc := 754) (i := 3) dL_law_754 rfl rfl ?_
    refine r_iconst (pc := 755) dL_law_755 (in32_of rfl) ?_
    refine r_iaddN (pc := 756) (c := ((i + 1 : Nat) : Int)) dL_law_756 (by unfold w32; omega) ?_
    refine r_xload (pc := 757) (e := 0) (x := sv G (i + 1)) (by decide) dL_law_757 (by omega) (sv_lt (by omega)) (sv_x G _) (sv_in G _) ?_
    refine r_if_eq (pc := 758) (tgt := 765) dL_law_758 rfl (fun c1 => absurd c1 c0) (fun c1 => ?_)
    refine r_iconst (pc := 761) dL_law_761 (in32_of rfl) ?_
    refine r_goto (pc := 762) (tgt := 766) dL_law_762 rfl ?_
    refine r_callV1 (pc := 766) (d - 1) [aI 1] dL_law_766 (CV.mk2 mk_X12_secret lk_L_114) (RC.of (ltM hMU (by decide)) (kM274 hMU) (by decide) rfl) rfl rfl (by omega) (Nat.le_of_ble_eq_true rfl) (Nat.le_of_ble_eq_true rfl) (hmid _ (fun M2 hL2 => ⟨_, rfl, fun _ => ?_⟩))
    exact r_icmp_eq (pc := 769) (tgt := 978) dL_law_769 rfl (fun _ => kk _ _ hL2) (fun c => absurd rfl c)
theorem law_24 {G : Gl} {d i : Nat} {T : Sh} {M : Mi} (hd : 10 ≤ d) (hi : i + 6 ≤ gL G) (hLn : gL G ≤ 3072) (h : LI T M) (kk : ∀ T2 M2, LI T2 M2 → Ev G mL_law d 978 [some (aE 0), some (aR 0), some (aR 274), some (aI ((i : Nat) : Int))] [] T2 M2 LQ) : Ev G mL_law d 774 [some (aE 0), some (aR 0), some (aR 274), some (aI ((i : Nat) : Int))] [] T M LQ := by
  have hsh := h.sh
  refine r_aload_n (pc := 774) (i := 1) dL_law_774 rfl rfl ?_
  refine r_aload_nE (pc := 775) (i := 0) dL_law_775 rfl rfl ?_
  refine r_iload_n (pc := 776) (i := 3) dL_law_776 rfl rfl ?_
  refine r_iconst (pc := 777) dL_law_777 (in32_of rfl) ?_
  refine r_iaddN (pc := 778) (c := ((i + 1 : Nat) : Int)) dL_law_778 (by unfold w32; omega) ?_
  refine r_xload (pc := 779) (e := 0) (x := sv G (i + 1)) (by decide) dL_law_779 (by omega) (sv_lt (by omega)) (sv_x G _) (sv_in G _) ?_
  refine r_aload_nE (pc := 780) (i := 0) dL_law_780 rfl rfl ?_
  refine r_iload_n (pc := 781) (i := 3) dL_law_781 rfl rfl ?_
  refine r_iconst (pc := 782) dL_law_782 (in32_of rfl) ?_
  refine r_iaddN (pc := 783) (c := ((i + 2 : Nat) : Int)) dL_law_783 (by unfold w32; omega) ?_
  refine r_xload (pc := 784) (e := 0) (x := sv G (i + 2)) (by decide) dL_law_784 (by omega) (sv_lt (by omega)) (sv_x G _) (sv_in G _) ?_
  refine r_callV1 (pc := 785) (d - 1) [aI (sv G (i + 1)), aI (sv G (i + 2))] dL_law_785 (CV.mk2 mk_X11_would lk_L_115) (RC.of hsh.2.2 hsh.2.1 (by decide) rfl) rfl rfl (by omega) (Nat.le_of_ble_eq_true rfl) (Nat.le_of_ble_eq_true rfl) (p_would h hd (fun U K v hMU hmid => ⟨_, rfl, fun _ => ?_⟩))
  refine r_aload_n (pc := 788) (i := 2) dL_law_788 rfl rfl ?_
  refine r_aload_nE (pc := 789) (i := 0) dL_law_789 rfl rfl ?_
  refine r_iload_n (pc := 790) (i := 3) dL_law_790 rfl rfl ?_
  refine r_iconst (pc := 791) dL_law_791 (in32_of rfl) ?_
  refine r_iaddN (pc := 792) (c := ((i + 1 : Nat) : Int)) dL_law_792 (by unfold w32; omega) ?_
  refine r_xload (pc := 793) (e := 0) (x := sv G (i + 1)) (by decide) dL_law_793 (by omega) (sv_lt (by omega)) (sv_x G _) (sv_in G _) ?_
  refine r_aload_nE (pc := 794) (i := 0) dL_law_794 rfl rfl ?_
  refine r_iload_n (pc := 795) (i := 3) dL_law_795 rfl rfl ?_
  refine r_iconst (pc := 796) dL_law_796 (in32_of rfl) ?_
  refine r_iaddN (pc := 797) (c := ((i + 2 : Nat) : Int)) dL_law_797 (by unfold w32; omega) ?_
  refine r_xload (pc := 798) (e := 0) (x := sv G (i + 2)) (by decide) dL_law_798 (by omega) (sv_lt (by omega)) (sv_x G _) (sv_in G _) ?_
  refine r_callV1 (pc := 799) (d - 1) [aI (sv G (i + 1)), aI (sv G (i + 2))] dL_law_799 (CV.mk2 mk_X12_would lk_L_118) (RC.of (ltM hMU (by decide)) (kM274 hMU) (by decide) rfl) rfl rfl (by omega) (Nat.le_of_ble_eq_true rfl) (Nat.le_of_ble_eq_true rfl) (hmid _ (fun M2 hL2 => ⟨_, rfl, fun _ => ?_⟩))
  exact r_icmp_eq (pc := 802) (tgt := 978) dL_law_802 rfl (fun _ => kk _ _ hL2) (fun c => absurd rfl c)
theorem law_25 {G : Gl} {d i : Nat} {T : Sh} {M : Mi} (hd : 10 ≤ d) (hi : i + 6 ≤ gL G) (hLn : gL G ≤ 3072) (h : LI T M) (kk : ∀ T2 M2, LI T2 M2 → Ev G mL_law d 978 [some (aE 0), some (aR 0), some (aR 274), some (aI ((i : Nat) : Int))] [] T2 M2 LQ) : Ev G mL_law d 807 [some (aE 0), some (aR 0), some (aR 274), some (aI ((i : Nat) : Int))] [] T M LQ := by
  have hsh := h.sh
  refine r_aload_n (pc := 807) (i := 1) dL_law_807 rfl rfl ?_
  refine r_aload_nE (pc := 808) (i := 0) dL_law_808 rfl rfl ?_
  refine r_iload_n (pc := 809) (i := 3) dL_law_809 rfl rfl ?_
  refine r_iconst (pc := 810) dL_law_810 (in32_of rfl) ?_
  refine r_iaddN (pc := 811) (c := ((i + 1 : Nat) : Int)) dL_law_811 (by unfold w32; omega) ?_
  refine r_xload (pc := 812) (e := 0) (x := sv G (i + 1)) (by decide) dL_law_812 (by omega) (sv_lt (by omega)) (sv_x G _) (sv_in G _) ?_
  refine r_callV1 (pc := 813) (d - 1) [aI (sv G (i + 1))] dL_law_813 (CV.mk2 mk_X11_best lk_L_119) (RC.of hsh.2.2 hsh.2.1 (by decide) rfl) rfl rfl (by omega) (Nat.le_of_ble_eq_true rfl) (Nat.le_of_ble_eq_true rfl) (p_best h hd (fun U K v hMU hmid => ⟨_, rfl, fun _ => ?_⟩))
  refine r_aload_n (pc := 816) (i := 2) dL_law_816 rfl rfl ?_
  refine r_aload_nE (pc := 817) (i := 0) dL_law_817 rfl rfl ?_
  refine r_iload_n (pc := 818) (i := 3) dL_law_818 rfl rfl ?_
  refine r_iconst (pc := 819) dL_law_819 (in32_of rfl) ?_
  refine r_iaddN (pc := 820) (c := ((i + 1 : Nat) : Int)) dL_law_820 (by unfold w32; omega) ?_
  refine r_xload (pc := 821) (e := 0) (x := sv G (i + 1)) (by decide) dL_law_821 (by omega) (sv_lt (by omega)) (sv_x G _) (sv_in G _) ?_
  refine r_callV1 (pc := 822) (d - 1) [aI (sv G (i + 1))] dL_law_822 (CV.mk2 mk_X12_best lk_L_122) (RC.of (ltM hMU (by decide)) (kM274 hMU) (by decide) rfl) rfl rfl (by omega) (Nat.le_of_ble_eq_true rfl) (Nat.le_of_ble_eq_true rfl) (hmid _ (fun M2 hL2 => ⟨_, rfl, fun _ => ?_⟩))
  exact r_icmp_eq (pc := 825) (tgt := 978) dL_law_825 rfl (fun _ => kk _ _ hL2) (fun c => absurd rfl c)
theorem law_26 {G : Gl} {d i : Nat} {T : Sh} {M : Mi} (hd : 10 ≤ d) (hi : i + 6 ≤ gL G) (hLn : gL G ≤ 3072) (h : LI T M) (kk : ∀ T2 M2, LI T2 M2 → Ev G mL_law d 978 [some (aE 0), some (aR 0), some (aR 274), some (aI ((i : Nat) : Int))] [] T2 M2 LQ) : Ev G mL_law d 830 [some (aE 0), some (aR 0), some (aR 274), some (aI ((i : Nat) : Int))] [] T M LQ := by
  have hsh := h.sh
  refine r_aload_n (pc := 830) (i := 1) dL_law_830 rfl rfl ?_
  refine r_aload_nE (pc := 831) (i := 0) dL_law_831 rfl rfl ?_
  refine r_iload_n (pc := 832) (i := 3) dL_law_832 rfl rfl ?_
  refine r_iconst (pc := 833) dL_law_833 (in32_of rfl) ?_
  refine r_iaddN (pc := 834) (c := ((i + 1 : Nat) : Int)) dL_law_834 (by unfold w32; omega) ?_
  refine r_xload (pc := 835) (e := 0) (x := sv G (i + 1)) (by decide) dL_law_835 (by omega) (sv_lt (by omega)) (sv_x G _) (sv_in G _) ?_
  refine r_aload_nE (pc := 836) (i := 0) dL_law_836 rfl rfl ?_
  refine r_iload_n (pc := 837) (i := 3) dL_law_837 rfl rfl ?_
  refine r_iconst (pc := 838) dL_law_838 (in32_of rfl) ?_
  refine r_iaddN (pc := 839) (c := ((i + 2 : Nat) : Int)) dL_law_839 (by unfold w32; omega) ?_
  refine r_xload (pc := 840) (e := 0) (x := sv G (i + 2)) (by decide) dL_law_840 (by omega) (sv_lt (by omega)) (sv_x G _) (sv_in G _) ?_
  refine r_callV1 (pc := 841) (d - 1) [aI (sv G (i + 1)), aI (sv G (i + 2))] dL_law_841 (CV.mk2 mk_X11_seeds lk_L_123) (RC.of hsh.2.2 hsh.2.1 (by decide) rfl) rfl rfl (by omega) (Nat.le_of_ble_eq_true rfl) (Nat.le_of_ble_eq_true rfl) (p_seeds h hd (fun U K v hMU hmid => ⟨_, rfl, fun _ => ?_⟩))
  refine r_aload_n (pc := 844) (i := 2) dL_law_844 rfl rfl ?_
  refine r_aload_nE (pc := 845) (i := 0) dL_law_845 rfl rfl ?_
  refine r_iload_n (pc := 846) (i := 3) dL_law_846 rfl rfl ?_
  refine r_iconst (pc := 847) dL_law_847 (in32_of rfl) ?_
  refine r_iaddN (pc := 848) (c := ((i + 1 : Nat) : Int)) dL_law_848 (by unfold w32; omega) ?_
  refine r_xload (pc := 849) (e := 0) (x := sv G (i + 1)) (by decide) dL_law_849 (by omega) (sv_lt (by omega)) (sv_x G _) (sv_in G _) ?_
  refine r_aload_nE (pc := 850) (i := 0) dL_law_850 rfl rfl ?_
  refine r_iload_n (pc := 851) (i := 3) dL_law_851 rfl rfl ?_
  refine r_iconst (pc := 852) dL_law_852 (in32_of rfl) ?_
  refine r_iaddN (pc := 853) (c := ((i + 2 : Nat) : Int)) dL_law_853 (by unfold w32; omega) ?_
  refine r_xload (pc := 854) (e := 0) (x := sv G (i + 2)) (by decide) dL_law_854 (by omega) (sv_lt (by omega)) (sv_x G _) (sv_in G _) ?_
  refine r_callV1 (pc := 855) (d - 1) [aI (sv G (i + 1)), aI (sv G (i + 2))] dL_law_855 (CV.mk2 mk_X12_seeds lk_L_126) (RC.of (ltM hMU (by decide)) (kM274 hMU) (by decide) rfl) rfl rfl (by omega) (Nat.le_of_ble_eq_true rfl) (Nat.le_of_ble_eq_true rfl) (hmid _ (fun M2 hL2 => ⟨_, rfl, fun _ => ?_⟩))
  exact r_icmp_eq (pc := 858) (tgt := 978) dL_law_858 rfl (fun _ => kk _ _ hL2) (fun c => absurd rfl c)
theorem law_27 {G : Gl} {d i : Nat} {T : Sh} {M : Mi} (hd : 10 ≤ d) (hi : i + 6 ≤ gL G) (hLn : gL G ≤ 3072) (h : LI T M) (kk : ∀ T2 M2, LI T2 M2 → Ev G mL_law d 978 [some (aE 0), some (aR 0), some (aR 274), some (aI ((i : Nat) : Int))] [] T2 M2 LQ) : Ev G mL_law d 863 [some (aE 0), some (aR 0), some (aR 274), some (aI ((i : Nat) : Int))] [] T M LQ := by
  have hsh := h.sh
  refine r_aload_n (pc := 863) (i := 1) dL_law_863 rfl rfl ?_
  refine r_aload_nE (pc := 864) (i := 0) dL_law_864 rfl rfl ?_
  refine r_iload_n (pc := 865) (i := 3) dL_law_865 rfl rfl ?_
  refine r_iconst (pc := 866) dL_law_866 (in32_of rfl) ?_
  refine r_iaddN (pc := 867) (c := ((i + 1 : Nat) : Int)) dL_law_867 (by unfold w32; omega) ?_
  refine r_xload (pc := 868) (e := 0) (x := sv G (i + 1)) (by decide) dL_law_868 (by omega) (sv_lt (by omega)) (sv_x G _) (sv_in G _) ?_
  refine r_callV1 (pc := 869) (d - 1) [aI (sv G (i + 1))] dL_law_869 (CV.mk2 mk_X11_noise lk_L_127) (RC.of hsh.2.2 hsh.2.1 (by decide) rfl) rfl rfl (by omega) (Nat.le_of_ble_eq_true rfl) (Nat.le_of_ble_eq_true rfl) (p_noise h hd (fun U K v hMU hmid => ⟨_, rfl, fun _ => ?_⟩))
  refine r_aload_n (pc := 872) (i := 2) dL_law_872 rfl rfl ?_
  refine r_aload_nE (pc := 873) (i := 0) dL_law_873 rfl rfl ?_
  refine r_iload_n (pc := 874) (i := 3) dL_law_874 rfl rfl ?_
  refine r_iconst (pc := 875) dL_law_875 (in32_of rfl) ?_
  refine r_iaddN (pc := 876) (c := ((i + 1 : Nat) : Int)) dL_law_876 (by unfold w32; omega) ?_
  refine r_xload (pc := 877) (e := 0) (x := sv G (i + 1)) (by decide) dL_law_877 (by omega) (sv_lt (by omega)) (sv_x G _) (sv_in G _) ?_
  refine r_callV1 (pc := 878) (d - 1) [aI (sv G (i + 1))] dL_law_878 (CV.mk2 mk_X12_noise lk_L_130) (RC.of (ltM hMU (by decide)) (kM274 hMU) (by decide) rfl) rfl rfl (by omega) (Nat.le_of_ble_eq_true rfl) (Nat.le_of_ble_eq_true rfl) (hmid _ (fun M2 hL2 => ⟨_, rfl, fun _ => ?_⟩))
  exact r_icmp_eq (pc := 881) (tgt := 978) dL_law_881 rfl (fun _ => kk _ _ hL2) (fun c => absurd rfl c)
theorem law_28 {G : Gl} {d i : Nat} {T : Sh} {M : Mi} (hd : 10 ≤ d) (hi : i + 6 ≤ gL G) (hLn : gL G ≤ 3072) (h : LI T M) (kk : ∀ T2 M2, LI T2 M2 → Ev G mL_law d 978 [some (aE 0), some (aR 0), some (aR 274), some (aI ((i : Nat) : Int))] [] T2 M2 LQ) : Ev G mL_law d 886 [some (aE 0), some (aR 0), some (aR 274), some (aI ((i : Nat) : Int))] [] T M LQ := by
  have hsh := h.sh
  refine r_aload_n (pc := 886) (i := 1) dL_law_886 rfl rfl ?_
  refine r_aload_nE (pc := 887) (i := 0) dL_law_887 rfl rfl ?_
  refine r_iload_n (pc := 888) (i := 3) dL_law_888 rfl rfl ?_
  refine r_iconst (pc := 889) dL_law_889 (in32_of rfl) ?_
  refine r_iaddN (pc := 890) (c := ((i + 1 : Nat) : Int)) dL_law_890 (by unfold w32; omega) ?_
  refine r_xload (pc := 891) (e := 0) (x := sv G (i + 1)) (by decide) dL_law_891 (by omega) (sv_lt (by omega)) (sv_x G _) (sv_in G _) ?_
  refine r_callV1 (pc := 892) (d - 1) [aI (sv G (i + 1))] dL_law_892 (CV.mk2 mk_X11_rounds lk_L_131) (RC.of hsh.2.2 hsh.2.1 (by decide) rfl) rfl rfl (by omega) (Nat.le_of_ble_eq_true rfl) (Nat.le_of_ble_eq_true rfl) (p_rounds h hd (fun U K v hMU hmid => ⟨_, rfl, fun _ => ?_⟩))
  refine r_aload_n (pc := 895) (i := 2) dL_law_895 rfl rfl ?_
  refine r_aload_nE (pc := 896) (i := 0) dL_law_896 rfl rfl ?_
  refine r_iload_n (pc := 897) (i := 3) dL_law_897 rfl rfl ?_
  refine r_iconst (pc := 898) dL_law_898 (in32_of rfl) ?_
  refine r_iaddN (pc := 899) (c := ((i + 1 : Nat) : Int)) dL_law_899 (by unfold w32; omega) ?_
  refine r_xload (pc := 900) (e := 0) (x := sv G (i + 1)) (by decide) dL_law_900 (by omega) (sv_lt (by omega)) (sv_x G _) (sv_in G _) ?_
  refine r_callV1 (pc := 901) (d - 1) [aI (sv G (i + 1))] dL_law_901 (CV.mk2 mk_X12_rounds lk_L_134) (RC.of (ltM hMU (by decide)) (kM274 hMU) (by decide) rfl) rfl rfl (by omega) (Nat.le_of_ble_eq_true rfl) (Nat.le_of_ble_eq_true rfl) (hmid _ (fun M2 hL2 => ⟨_, rfl, fun _ => ?_⟩))
  exact r_icmp_eq (pc := 904) (tgt := 978) dL_law_904 rfl (fun _ => kk _ _ hL2) (fun c => absurd rfl c)
theorem law_29 {G : Gl} {d i : Nat} {T : Sh} {M : Mi} (hd : 10 ≤ d) (hi : i + 6 ≤ gL G) (hLn : gL G ≤ 3072) (h : LI T M) (kk : ∀ T2 M2, LI T2 M2 → Ev G mL_law d 978 [some (aE 0), some (aR 0), some (aR 274), some (aI ((i : Nat) : Int))] [] T2 M2 LQ) : Ev G mL_law d 909 [some (aE 0), some (aR 0), some (aR 274), some (aI ((i : Nat) : Int))] [] T M LQ := by
  have hsh := h.sh
  refine r_aload_n (pc := 909) (i := 1) dL_law_909 rfl rfl ?_
  refine r_aload_nE (pc := 910) (i := 0) dL_law_910 rfl rfl ?_
  refine r_iload_n (pc := 911) (i := 3) dL_law_911 rfl rfl ?_
  refine r_iconst (pc := 912) dL_law_912 (in32_of rfl) ?_
  refine r_iaddN (pc := 913) (c := ((i + 1 : Nat) : Int)) dL_law_913 (by unfold w32; omega) ?_
  refine r_xload (pc := 914) (e := 0) (x := sv G (i + 1)) (by decide) dL_law_914 (by omega) (sv_lt (by omega)) (sv_x G _) (sv_in G _) ?_
  refine r_callV1 (pc := 915) (d - 1) [aI (sv G (i + 1))] dL_law_915 (CV.mk2 mk_X11_image lk_L_135) (RC.of hsh.2.2 hsh.2.1 (by decide) rfl) rfl rfl (by omega) (Nat.le_of_ble_eq_true rfl) (Nat.le_of_ble_eq_true rfl) (p_image h hd (fun U K v hMU hmid => ⟨_, rfl, fun _ => ?_⟩))
  refine r_aload_n (pc := 918) (i := 2) dL_law_918 rfl rfl ?_
  refine r_aload_nE (pc := 919) (i := 0) dL_law_919 rfl rfl ?_
  refine r_iload_n (pc := 920) (i := 3) dL_law_920 rfl rfl ?_
  refine r_iconst (pc := 921) dL_law_921 (in32_of rfl) ?_
  refine r_iaddN (pc := 922) (c := ((i + 1 : Nat) : Int)) dL_law_922 (by unfold w32; omega) ?_
  refine r_xload (pc := 923) (e := 0) (x := sv G (i + 1)) (by decide) dL_law_923 (by omega) (sv_lt (by omega)) (sv_x G _) (sv_in G _) ?_
  refine r_callV1 (pc := 924) (d - 1) [aI (sv G (i + 1))] dL_law_924 (CV.mk2 mk_X12_image lk_L_138) (RC.of (ltM hMU (by decide)) (kM274 hMU) (by decide) rfl) rfl rfl (by omega) (Nat.le_of_ble_eq_true rfl) (Nat.le_of_ble_eq_true rfl) (hmid _ (fun M2 hL2 => ⟨_, rfl, fun _ => ?_⟩))
  exact r_icmp_eq (pc := 927) (tgt := 978) dL_law_927 rfl (fun _ => kk _ _ hL2) (fun c => absurd rfl c)
theorem law_30 {G : Gl} {d i : Nat} {T : Sh} {M : Mi} (hd : 10 ≤ d) (hi : i + 6 ≤ gL G) (hLn : gL G ≤ 3072) (h : LI T M) (kk : ∀ T2 M2, LI T2 M2 → Ev G mL_law d 978 [some (aE 0), some (aR 0), some (aR 274), some (aI ((i : Nat) : Int))] [] T2 M2 LQ) : Ev G mL_law d 932 [some (aE 0), some (aR 0), some (aR 274), some (aI ((i : Nat) : Int))] [] T M LQ := by
  have hsh := h.sh
  refine r_aload_n (pc := 932) (i := 1) dL_law_932 rfl rfl ?_
  refine r_aload_nE (pc := 933) (i := 0) dL_law_933 rfl rfl ?_
  refine r_iload_n (pc := 934) (i := 3) dL_law_934 rfl rfl ?_
  refine r_iconst (pc := 935) dL_law_935 (in32_of rfl) ?_
  refine r_iaddN (pc := 936) (c := ((i + 1 : Nat) : Int)) dL_law_936 (by unfold w32; omega) ?_
  refine r_xload (pc := 937) (e := 0) (x := sv G (i + 1)) (by decide) dL_law_937 (by omega) (sv_lt (by omega)) (sv_x G _) (sv_in G _) ?_
  refine r_callV1 (pc := 938) (d - 1) [aI (sv G (i + 1))] dL_law_938 (CV.mk2 mk_X11_back lk_L_139) (RC.of hsh.2.2 hsh.2.1 (by decide) rfl) rfl rfl (by omega) (Nat.le_of_ble_eq_true rfl) (Nat.le_of_ble_eq_true rfl) (p_back h hd (fun U K v hMU hmid => ⟨_, rfl, fun _ => ?_⟩))
  refine r_aload_n (pc := 941) (i := 2) dL_law_941 rfl rfl ?_
  refine r_aload_nE (pc := 942) (i := 0) dL_law_942 rfl rfl ?_
  refine r_iload_n (pc := 943) (i := 3) dL_law_943 rfl rfl ?_
  refine r_iconst (pc := 944) dL_law_944 (in32_of rfl) ?_
  refine r_iaddN (pc := 945) (c := ((i + 1 : Nat) : Int)) dL_law_945 (by unfold w32; omega) ?_
  refine r_xload (pc := 946) (e := 0) (x := sv G (i + 1)) (by decide) dL_law_946 (by omega) (sv_lt (by omega)) (sv_x G _) (sv_in G _) ?_
  refine r_callV1 (pc := 947) (d - 1) [aI (sv G (i + 1))] dL_law_947 (CV.mk2 mk_X12_back lk_L_142) (RC.of (ltM hMU (by decide)) (kM274 hMU) (by decide) rfl) rfl rfl (by omega) (Nat.le_of_ble_eq_true rfl) (Nat.le_of_ble_eq_true rfl) (hmid _ (fun M2 hL2 => ⟨_, rfl, fun _ => ?_⟩))
  exact r_icmp_eq (pc := 950) (tgt := 978) dL_law_950 rfl (fun _ => kk _ _ hL2) (fun c => absurd rfl c)
theorem law_31 {G : Gl} {d i : Nat} {T : Sh} {M : Mi} (hd : 10 ≤ d) (hi : i + 6 ≤ gL G) (hLn : gL G ≤ 3072) (h : LI T M) (kk : ∀ T2 M2, LI T2 M2 → Ev G mL_law d 978 [some (aE 0), some (aR 0), some (aR 274), some (aI ((i : Nat) : Int))] [] T2 M2 LQ) : Ev G mL_law d 955 [some (aE 0), some (aR 0), some (aR 274), some (aI ((i : Nat) : Int))] [] T M LQ := by
  have hsh := h.sh
  refine r_aload_n (pc := 955) (i := 1) dL_law_955 rfl rfl ?_
  refine r_aload_nE (pc := 956) (i := 0) dL_law_956 rfl rfl ?_
  refine r_iload_n (pc := 957) (i := 3) dL_law_957 rfl rfl ?_
  refine r_iconst (pc := 958) dL_law_958 (in32_of rfl) ?_
  refine r_iaddN (pc := 959) (c := ((i + 1 : Nat) : Int)) dL_law_959 (by unfold w32; omega) ?_
  refine r_xload (pc := 960) (e := 0) (x := sv G (i + 1)) (by decide) dL_law_960 (by omega) (sv_lt (by omega)) (sv_x G _) (sv_in G _) ?_
  refine r_callV1 (pc := 961) (d - 1) [aI (sv G (i + 1))] dL_law_961 (CV.mk2 mk_X11_count lk_L_143) (RC.of hsh.2.2 hsh.2.1 (by decide) rfl) rfl rfl (by omega) (Nat.le_of_ble_eq_true rfl) (Nat.le_of_ble_eq_true rfl) (p_count h hd (fun U K v hMU hmid => ⟨_, rfl, fun _ => ?_⟩))
  refine r_aload_n (pc := 964) (i := 2) dL_law_964 rfl rfl ?_
  refine r_aload_nE (pc := 965) (i := 0) dL_law_965 rfl rfl ?_
  refine r_iload_n (pc := 966) (i := 3) dL_law_966 rfl rfl ?_
  refine r_iconst (pc := 967) dL_law_967 (in32_of rfl) ?_
  refine r_iaddN (pc := 968) (c := ((i + 1 : Nat) : Int)) dL_law_968 (by unfold w32; omega) ?_
  refine r_xload (pc := 969) (e := 0) (x := sv G (i + 1)) (by decide) dL_law_969 (by omega) (sv_lt (by omega)) (sv_x G _) (sv_in G _) ?_
  refine r_callV1 (pc := 970) (d - 1) [aI (sv G (i + 1))] dL_law_970 (CV.mk2 mk_X12_count lk_L_146) (RC.of (ltM hMU (by decide)) (kM274 hMU) (by decide) rfl) rfl rfl (by omega) (Nat.le_of_ble_eq_true rfl) (Nat.le_of_ble_eq_true rfl) (hmid _ (fun M2 hL2 => ⟨_, rfl, fun _ => ?_⟩))
  exact r_icmp_eq (pc := 973) (tgt := 978) dL_law_973 rfl (fun _ => kk _ _ hL2) (fun c => absurd rfl c)
end C80
