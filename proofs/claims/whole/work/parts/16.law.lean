/-! The law, over an invariant of both sides and one row an operation. -/
def jo (Inv : Nat → jx_H → Prop) (jc jm : Nat) (as : List Value) : Prop := ∀ (n : Nat) (h : jx_H), n < 512 → Inv n h →
  jx_Tr 199 13 206 jc (.ref 1 :: as) h (fun r h1 => (h1.2.1 0 = h.2.1 0 ∧ h1.1[0]? = h.1[0]? ∧ h1.1[253]? = some (.inr (.inl 12))) ∧ ∃ v : Int32, r = some (.int v) ∧
    jx_Tr 199 0 0 jm (.ref 253 :: as) h1 (fun r' h2 => r' = some (.int v) ∧ h2.1[0]? = h1.1[0]? ∧ Inv (n + 1) h2))
theorem ju_topi {d bc bs i pc : Nat} {lv : List (Option Value)} {st : List Value} {h : jx_H} {Q : Option Value → jx_H → Prop} {x : Int32} (k : ∀ y : Int32, y = x → jx_Ev d bc bs i pc lv (.int y :: st) h Q) : jx_Ev d bc bs i pc lv (.int x :: st) h Q := k x rfl
theorem lw_lt {L i : Nat} (hL : L ≤ 3072) (hi : i ≤ 3078) (h : ¬ (nI L - 6 < nI i)) : i + 6 ≤ L := by
  rw [Int32.lt_iff_toInt_lt, show (6 : Int32) = nI 6 from rfl, pk_sub_toInt (by omega) (by omega), nI_toInt (by omega)] at h
  omega
theorem lw_ok {L i : Nat} (j : Nat) (hL : L ≤ 3072) (h : i + 6 ≤ L) (hj : j < 6) : jx_ok (nI i + nI j) L := by
  rw [nI_add]
  exact vp_in_nI (by omega) (by omega)
theorem lw_ok0 {L i : Nat} (hL : L ≤ 3072) (h : i + 6 ≤ L) : jx_ok (nI i) L := vp_in_nI (by omega) (by omega)
theorem lw_c0 {Inv : Nat → jx_H → Prop} (hc : ∀ {n : Nat} (h : jx_H), Inv n h → h.1[1]? = some (.inr (.inl 0)) ∧ h.1[253]? = some (.inr (.inl 12))) (op : ∀ v1 v2 v3 v4 v5 : Int32, jo Inv 1 12001 [.int v1, .int v2, .int v3, .int v4, .int v5]) {n L bc bs : Nat} {h : jx_H} {Q : Option Value → jx_H → Prop} (hn512 : n < 512) (hn : Inv n h) (hS : h.1[0]? = some (.inl (5, L))) (hL : L ≤ 3072) (hi : 6 * n + 6 ≤ L) (kk : ∀ h2, Inv (n + 1) h2 → h2.1[0]? = some (.inl (5, L)) → jx_Ev 200 bc bs 13000 1048 [some (.ref 0), some (.ref 1), some (.ref 253), some (.int (nI (6 * n)))] [] h2 Q) : jx_Ev 200 (13 + bc) (206 + bs) 13000 168 [some (.ref 0), some (.ref 1), some (.ref 253), some (.int (nI (6 * n)))] [] h Q := by
  refine je_aload1 (pc := 168) d13000_168 rfl ?_
  refine je_aload0 (pc := 169) d13000_169 rfl ?_
  refine je_iload3 (pc := 170) d13000_170 rfl ?_
  refine je_iconst (pc := 171) (v := 1) d13000_171 rfl ?_
  refine je_iadd (pc := 172) d13000_172 ?_
  refine je_sald (pc := 173) d13000_173 hS (lw_ok 1 hL hi (by decide)) ?_
  refine je_aload0 (pc := 174) d13000_174 rfl ?_
  refine je_iload3 (pc := 175) d13000_175 rfl ?_
  refine je_iconst (pc := 176) (v := 2) d13000_176 rfl ?_
  refine je_iadd (pc := 177) d13000_177 ?_
  refine je_sald (pc := 178) d13000_178 hS (lw_ok 2 hL hi (by decide)) ?_
  refine je_aload0 (pc := 179) d13000_179 rfl ?_
  refine je_iload3 (pc := 180) d13000_180 rfl ?_
  refine je_iconst (pc := 181) (v := 3) d13000_181 rfl ?_
  refine je_iadd (pc := 182) d13000_182 ?_
  refine je_sald (pc := 183) d13000_183 hS (lw_ok 3 hL hi (by decide)) ?_
  refine je_aload0 (pc := 184) d13000_184 rfl ?_
  refine je_iload3 (pc := 185) d13000_185 rfl ?_
  refine je_iconst (pc := 186) (v := 4) d13000_186 rfl ?_
  refine je_iadd (pc := 187) d13000_187 ?_
  refine je_sald (pc := 188) d13000_188 hS (lw_ok 4 hL hi (by decide)) ?_
  refine je_aload0 (pc := 189) d13000_189 rfl ?_
  refine je_iload3 (pc := 190) d13000_190 rfl ?_
  refine je_iconst (pc := 191) (v := 5) d13000_191 rfl ?_
  refine je_iadd (pc := 192) d13000_192 ?_
  refine je_sald (pc := 193) d13000_193 hS (lw_ok 5 hL hi (by decide)) ?_
  refine je_callv (pc := 194) (as := [_, _, _, _, _]) (mc := 13) (ms := 206) d13000_194 jL_13_13 jM_Db_feed rfl (by decide) (hc h hn).1 rfl (by exact Nat.le_of_ble_eq_true rfl) (op _ _ _ _ _ n h hn512 hn) (fun r1 h1 q1 => ?_)
  obtain ⟨⟨e1, e2, e3⟩, v, rfl, t2⟩ := q1
  refine je_aload2 (pc := 197) d13000_197 rfl ?_
  refine je_aload0 (pc := 198) d13000_198 rfl ?_
  refine je_iload3 (pc := 199) d13000_199 rfl ?_
  refine je_iconst (pc := 200) (v := 1) d13000_200 rfl ?_
  refine je_iadd (pc := 201) d13000_201 ?_
  refine je_sald (pc := 202) d13000_202 (e2.trans hS) (lw_ok 1 hL hi (by decide)) ?_
  refine je_aload0 (pc := 203) d13000_203 rfl ?_
  refine je_iload3 (pc := 204) d13000_204 rfl ?_
  refine je_iconst (pc := 205) (v := 2) d13000_205 rfl ?_
  refine je_iadd (pc := 206) d13000_206 ?_
  refine je_sald (pc := 207) d13000_207 (e2.trans hS) (lw_ok 2 hL hi (by decide)) ?_
  refine je_aload0 (pc := 208) d13000_208 rfl ?_
  refine je_iload3 (pc := 209) d13000_209 rfl ?_
  refine je_iconst (pc := 210) (v := 3) d13000_210 rfl ?_
  refine je_iadd (pc := 211) d13000_211 ?_
  refine je_sald (pc := 212) d13000_212 (e2.trans hS) (lw_ok 3 hL hi (by decide)) ?_
  refine je_aload0 (pc := 213) d13000_213 rfl ?_
  refine je_iload3 (pc := 214) d13000_214 rfl ?_
  refine je_iconst (pc := 215) (v := 4) d13000_215 rfl ?_
  refine je_iadd (pc := 216) d13000_216 ?_
  refine je_sald (pc := 217) d13000_217 (e2.trans hS) (lw_ok 4 hL hi (by decide)) ?_
  refine je_aload0 (pc := 218) d13000_218 rfl ?_
  refine je_iload3 (pc := 219) d13000_219 rfl ?_
  refine je_iconst (pc := 220) (v := 5) d13000_220 rfl ?_
  refine je_iadd (pc := 221) d13000_221 ?_
  refine je_sald (pc := 222) d13000_222 (e2.trans hS) (lw_ok 5 hL hi (by decide)) ?_
  rw [e1]
  refine ju_callv (pc := 223) (as := [_, _, _, _, _]) d13000_223 jL_13_17 jM_Mo_feed rfl (by decide) e3 rfl (by exact Nat.le_of_ble_eq_true rfl) t2 (fun r2 h2 q2 => ?_)
  obtain ⟨rfl, e4, hn2⟩ := q2
  refine je_iceq (pc := 226) 1048 d13000_226 (by decide) (fun _ => ?_) (fun c => absurd rfl c)
  exact kk h2 hn2 (e4.trans (e2.trans hS))
theorem lw_c1 {Inv : Nat → jx_H → Prop} (hc : ∀ {n : Nat} (h : jx_H), Inv n h → h.1[1]? = some (.inr (.inl 0)) ∧ h.1[253]? = some (.inr (.inl 12))) (op : ∀ v1 : Int32, jo Inv 2 12003 [.int v1]) {n L bc bs : Nat} {h : jx_H} {Q : Option Value → jx_H → Prop} (hn512 : n < 512) (hn : Inv n h) (hS : h.1[0]? = some (.inl (5, L))) (hL : L ≤ 3072) (hi : 6 * n + 6 ≤ L) (kk : ∀ h2, Inv (n + 1) h2 → h2.1[0]? = some (.inl (5, L)) → jx_Ev 200 bc bs 13000 1048 [some (.ref 0), some (.ref 1), some (.ref 253), some (.int (nI (6 * n)))] [] h2 Q) : jx_Ev 200 (13 + bc) (206 + bs) 13000 231 [some (.ref 0), some (.ref 1), some (.ref 253), some (.int (nI (6 * n)))] [] h Q := by
  refine je_aload1 (pc := 231) d13000_231 rfl ?_
  refine je_aload0 (pc := 232) d13000_232 rfl ?_
  refine je_iload3 (pc := 233) d13000_233 rfl ?_
  refine je_iconst (pc := 234) (v := 1) d13000_234 rfl ?_
  refine je_iadd (pc := 235) d13000_235 ?_
  refine je_sald (pc := 236) d13000_236 hS (lw_ok 1 hL hi (by decide)) ?_
  refine je_callv (pc := 237) (as := [_]) (mc := 13) (ms := 206) d13000_237 jL_13_18 jM_Db_end rfl (by decide) (hc h hn).1 rfl (by exact Nat.le_of_ble_eq_true rfl) (op _ n h hn512 hn) (fun r1 h1 q1 => ?_)
  obtain ⟨⟨e1, e2, e3⟩, v, rfl, t2⟩ := q1
  refine je_aload2 (pc := 240) d13000_240 rfl ?_
  refine je_aload0 (pc := 241) d13000_241 rfl ?_
  refine je_iload3 (pc := 242) d13000_242 rfl ?_
  refine je_iconst (pc := 243) (v := 1) d13000_243 rfl ?_
  refine je_iadd (pc := 244) d13000_244 ?_
  refine je_sald (pc := 245) d13000_245 (e2.trans hS) (lw_ok 1 hL hi (by decide)) ?_
  rw [e1]
  refine ju_callv (pc := 246) (as := [_]) d13000_246 jL_13_22 jM_Mo_end rfl (by decide) e3 rfl (by exact Nat.le_of_ble_eq_true rfl) t2 (fun r2 h2 q2 => ?_)
  obtain ⟨rfl, e4, hn2⟩ := q2
  refine je_iceq (pc := 249) 1048 d13000_249 (by decide) (fun _ => ?_) (fun c => absurd rfl c)
  exact kk h2 hn2 (e4.trans (e2.trans hS))
theorem lw_c2 {Inv : Nat → jx_H → Prop} (hc : ∀ {n : Nat} (h : jx_H), Inv n h → h.1[1]? = some (.inr (.inl 0)) ∧ h.1[253]? = some (.inr (.inl 12))) (op : jo Inv 3 12004 []) {n L bc bs : Nat} {h : jx_H} {Q : Option Value → jx_H → Prop} (hn512 : n < 512) (hn : Inv n h) (hS : h.1[0]? = some (.inl (5, L))) (hL : L ≤ 3072) (hi : 6 * n + 6 ≤ L) (kk : ∀ h2, Inv (n + 1) h2 → h2.1[0]? = some (.inl (5, L)) → jx_Ev 200 bc bs 13000 1048 [some (.ref 0), some (.ref 1), some (.ref 253), some (.int (nI (6 * n)))] [] h2 Q) : jx_Ev 200 (13 + bc) (206 + bs) 13000 254 [some (.ref 0), some (.ref 1), some (.ref 253), some (.int (nI (6 * n)))] [] h Q := by
  refine je_aload1 (pc := 254) d13000_254 rfl ?_
  refine je_callv (pc := 255) (as := []) (mc := 13) (ms := 206) d13000_255 jL_13_23 jM_Db_strip rfl (by decide) (hc h hn).1 rfl (by exact Nat.le_of_ble_eq_true rfl) (op  n h hn512 hn) (fun r1 h1 q1 => ?_)
  obtain ⟨⟨e1, e2, e3⟩, v, rfl, t2⟩ := q1
  refine je_aload2 (pc := 258) d13000_258 rfl ?_
  refine ju_callv (pc := 259) (as := []) d13000_259 jL_13_27 jM_Mo_strip rfl (by decide) e3 rfl (by exact Nat.le_of_ble_eq_true rfl) t2 (fun r2 h2 q2 => ?_)
  obtain ⟨rfl, e4, hn2⟩ := q2
  refine je_iceq (pc := 262) 1048 d13000_262 (by decide) (fun _ => ?_) (fun c => absurd rfl c)
  exact kk h2 hn2 (e4.trans (e2.trans hS))
theorem lw_c3 {Inv : Nat → jx_H → Prop} (hc : ∀ {n : Nat} (h : jx_H), Inv n h → h.1[1]? = some (.inr (.inl 0)) ∧ h.1[253]? = some (.inr (.inl 12))) (op : jo Inv 5 12025 []) {n L bc bs : Nat} {h : jx_H} {Q : Option Value → jx_H → Prop} (hn512 : n < 512) (hn : Inv n h) (hS : h.1[0]? = some (.inl (5, L))) (hL : L ≤ 3072) (hi : 6 * n + 6 ≤ L) (kk : ∀ h2, Inv (n + 1) h2 → h2.1[0]? = some (.inl (5, L)) → jx_Ev 200 bc bs 13000 1048 [some (.ref 0), some (.ref 1), some (.ref 253), some (.int (nI (6 * n)))] [] h2 Q) : jx_Ev 200 (13 + bc) (206 + bs) 13000 267 [some (.ref 0), some (.ref 1), some (.ref 253), some (.int (nI (6 * n)))] [] h Q := by
  refine je_aload1 (pc := 267) d13000_267 rfl ?_
  refine je_callv (pc := 268) (as := []) (mc := 13) (ms := 206) d13000_268 jL_13_28 jM_Db_rule rfl (by decide) (hc h hn).1 rfl (by exact Nat.le_of_ble_eq_true rfl) (op  n h hn512 hn) (fun r1 h1 q1 => ?_)
  obtain ⟨⟨e1, e2, e3⟩, v, rfl, t2⟩ := q1
  refine je_aload2 (pc := 271) d13000_271 rfl ?_
  refine ju_callv (pc := 272) (as := []) d13000_272 jL_13_31 jM_Mo_rule rfl (by decide) e3 rfl (by exact Nat.le_of_ble_eq_true rfl) t2 (fun r2 h2 q2 => ?_)
  obtain ⟨rfl, e4, hn2⟩ := q2
  refine je_iceq (pc := 275) 1048 d13000_275 (by decide) (fun _ => ?_) (fun c => absurd rfl c)
  exact kk h2 hn2 (e4.trans (e2.trans hS))
theorem lw_c4 {Inv : Nat → jx_H → Prop} (hc : ∀ {n : Nat} (h : jx_H), Inv n h → h.1[1]? = some (.inr (.inl 0)) ∧ h.1[253]? = some (.inr (.inl 12))) (op : ∀ v1 : Int32, jo Inv 6 12040 [.int v1]) {n L bc bs : Nat} {h : jx_H} {Q : Option Value → jx_H → Prop} (hn512 : n < 512) (hn : Inv n h) (hS : h.1[0]? = some (.inl (5, L))) (hL : L ≤ 3072) (hi : 6 * n + 6 ≤ L) (kk : ∀ h2, Inv (n + 1) h2 → h2.1[0]? = some (.inl (5, L)) → jx_Ev 200 bc bs 13000 1048 [some (.ref 0), some (.ref 1), some (.ref 253), some (.int (nI (6 * n)))] [] h2 Q) : jx_Ev 200 (13 + bc) (206 + bs) 13000 280 [some (.ref 0), some (.ref 1), some (.ref 253), some (.int (nI (6 * n)))] [] h Q := by
  refine je_aload1 (pc := 280) d13000_280 rfl ?_
  refine je_aload0 (pc := 281) d13000_281 rfl ?_
  refine je_iload3 (pc := 282) d13000_282 rfl ?_
  refine je_iconst (pc := 283) (v := 1) d13000_283 rfl ?_
  refine je_iadd (pc := 284) d13000_284 ?_
  refine je_sald (pc := 285) d13000_285 hS (lw_ok 1 hL hi (by decide)) ?_
  refine je_callv (pc := 286) (as := [_]) (mc := 13) (ms := 206) d13000_286 jL_13_32 jM_Db_force rfl (by decide) (hc h hn).1 rfl (by exact Nat.le_of_ble_eq_true rfl) (op _ n h hn512 hn) (fun r1 h1 q1 => ?_)
  obtain ⟨⟨e1, e2, e3⟩, v, rfl, t2⟩ := q1
  refine je_aload2 (pc := 289) d13000_289 rfl ?_
  refine je_aload0 (pc := 290) d13000_290 rfl ?_
  refine je_iload3 (pc := 291) d13000_291 rfl ?_
  refine je_iconst (pc := 292) (v := 1) d13000_292 rfl ?_
  refine je_iadd (pc := 293) d13000_293 ?_
  refine je_sald (pc := 294) d13000_294 (e2.trans hS) (lw_ok 1 hL hi (by decide)) ?_
  rw [e1]
  refine ju_callv (pc := 295) (as := [_]) d13000_295 jL_13_35 jM_Mo_force rfl (by decide) e3 rfl (by exact Nat.le_of_ble_eq_true rfl) t2 (fun r2 h2 q2 => ?_)
  obtain ⟨rfl, e4, hn2⟩ := q2
  refine je_iceq (pc := 298) 1048 d13000_298 (by decide) (fun _ => ?_) (fun c => absurd rfl c)
  exact kk h2 hn2 (e4.trans (e2.trans hS))
theorem lw_c5 {Inv : Nat → jx_H → Prop} (hc : ∀ {n : Nat} (h : jx_H), Inv n h → h.1[1]? = some (.inr (.inl 0)) ∧ h.1[253]? = some (.inr (.inl 12))) (op : ∀ v1 v2 : Int32, jo Inv 7 12041 [.int v1, .int v2]) {n L bc bs : Nat} {h : jx_H} {Q : Option Value → jx_H → Prop} (hn512 : n < 512) (hn : Inv n h) (hS : h.1[0]? = some (.inl (5, L))) (hL : L ≤ 3072) (hi : 6 * n + 6 ≤ L) (kk : ∀ h2, Inv (n + 1) h2 → h2.1[0]? = some (.inl (5, L)) → jx_Ev 200 bc bs 13000 1048 [some (.ref 0), some (.ref 1), some (.ref 253), some (.int (nI (6 * n)))] [] h2 Q) : jx_Ev 200 (13 + bc) (206 + bs) 13000 303 [some (.ref 0), some (.ref 1), some (.ref 253), some (.int (nI (6 * n)))] [] h Q := by
  refine je_aload1 (pc := 303) d13000_303 rfl ?_
  refine je_aload0 (pc := 304) d13000_304 rfl ?_
  refine je_iload3 (pc := 305) d13000_305 rfl ?_
  refine je_iconst (pc := 306) (v := 1) d13000_306 rfl ?_
  refine je_iadd (pc := 307) d13000_307 ?_
  refine je_sald (pc := 308) d13000_308 hS (lw_ok 1 hL hi (by decide)) ?_
  refine je_aload0 (pc := 309) d13000_309 rfl ?_
  refine je_iload3 (pc := 310) d13000_310 rfl ?_
  refine je_iconst (pc := 311) (v := 2) d13000_311 rfl ?_
  refine je_iadd (pc := 312) d13000_312 ?_
  refine je_sald (pc := 313) d13000_313 hS (lw_ok 2 hL hi (by decide)) ?_
  refine je_callv (pc := 314) (as := [_, _]) (mc := 13) (ms := 206) d13000_314 jL_13_36 jM_Db_mile rfl (by decide) (hc h hn).1 rfl (by exact Nat.le_of_ble_eq_true rfl) (op _ _ n h hn512 hn) (fun r1 h1 q1 => ?_)
  obtain ⟨⟨e1, e2, e3⟩, v, rfl, t2⟩ := q1
  refine je_aload2 (pc := 317) d13000_317 rfl ?_
  refine je_aload0 (pc := 318) d13000_318 rfl ?_
  refine je_iload3 (pc := 319) d13000_319 rfl ?_
  refine je_iconst (pc := 320) (v := 1) d13000_320 rfl ?_
  refine je_iadd (pc := 321) d13000_321 ?_
  refine je_sald (pc := 322) d13000_322 (e2.trans hS) (lw_ok 1 hL hi (by decide)) ?_
  refine je_aload0 (pc := 323) d13000_323 rfl ?_
  refine je_iload3 (pc := 324) d13000_324 rfl ?_
  refine je_iconst (pc := 325) (v := 2) d13000_325 rfl ?_
  refine je_iadd (pc := 326) d13000_326 ?_
  refine je_sald (pc := 327) d13000_327 (e2.trans hS) (lw_ok 2 hL hi (by decide)) ?_
  rw [e1]
  refine ju_callv (pc := 328) (as := [_, _]) d13000_328 jL_13_40 jM_Mo_mile rfl (by decide) e3 rfl (by exact Nat.le_of_ble_eq_true rfl) t2 (fun r2 h2 q2 => ?_)
  obtain ⟨rfl, e4, hn2⟩ := q2
  refine je_iceq (pc := 331) 1048 d13000_331 (by decide) (fun _ => ?_) (fun c => absurd rfl c)
  exact kk h2 hn2 (e4.trans (e2.trans hS))
theorem lw_c6 {Inv : Nat → jx_H → Prop} (hc : ∀ {n : Nat} (h : jx_H), Inv n h → h.1[1]? = some (.inr (.inl 0)) ∧ h.1[253]? = some (.inr (.inl 12))) (op : ∀ v1 v2 : Int32, jo Inv 9 12045 [.int v1, .int v2]) {n L bc bs : Nat} {h : jx_H} {Q : Option Value → jx_H → Prop} (hn512 : n < 512) (hn : Inv n h) (hS : h.1[0]? = some (.inl (5, L))) (hL : L ≤ 3072) (hi : 6 * n + 6 ≤ L) (kk : ∀ h2, Inv (n + 1) h2 → h2.1[0]? = some (.inl (5, L)) → jx_Ev 200 bc bs 13000 1048 [some (.ref 0), some (.ref 1), some (.ref 253), some (.int (nI (6 * n)))] [] h2 Q) : jx_Ev 200 (13 + bc) (206 + bs) 13000 336 [some (.ref 0), some (.ref 1), some (.ref 253), some (.int (nI (6 * n)))] [] h Q := by
  refine je_aload1 (pc := 336) d13000_336 rfl ?_
  refine je_aload0 (pc := 337) d13000_337 rfl ?_
  refine je_iload3 (pc := 338) d13000_338 rfl ?_
  refine je_iconst (pc := 339) (v := 1) d13000_339 rfl ?_
  refine je_iadd (pc := 340) d13000_340 ?_
  refine je_sald (pc := 341) d13000_341 hS (lw_ok 1 hL hi (by decide)) ?_
  refine je_aload0 (pc := 342) d13000_342 rfl ?_
  refine je_iload3 (pc := 343) d13000_343 rfl ?_
  refine je_iconst (pc := 344) (v := 2) d13000_344 rfl ?_
  refine je_iadd (pc := 345) d13000_345 ?_
  refine je_sald (pc := 346) d13000_346 hS (lw_ok 2 hL hi (by decide)) ?_
  refine je_callv (pc := 347) (as := [_, _]) (mc := 13) (ms := 206) d13000_347 jL_13_41 jM_Db_village rfl (by decide) (hc h hn).1 rfl (by exact Nat.le_of_ble_eq_true rfl) (op _ _ n h hn512 hn) (fun r1 h1 q1 => ?_)
  obtain ⟨⟨e1, e2, e3⟩, v, rfl, t2⟩ := q1
  refine je_aload2 (pc := 350) d13000_350 rfl ?_
  refine je_aload0 (pc := 351) d13000_351 rfl ?_
  refine je_iload3 (pc := 352) d13000_352 rfl ?_
  refine je_iconst (pc := 353) (v := 1) d13000_353 rfl ?_
  refine je_iadd (pc := 354) d13000_354 ?_
  refine je_sald (pc := 355) d13000_355 (e2.trans hS) (lw_ok 1 hL hi (by decide)) ?_
  refine je_aload0 (pc := 356) d13000_356 rfl ?_
  refine je_iload3 (pc := 357) d13000_357 rfl ?_
  refine je_iconst (pc := 358) (v := 2) d13000_358 rfl ?_
  refine je_iadd (pc := 359) d13000_359 ?_
  refine je_sald (pc := 360) d13000_360 (e2.trans hS) (lw_ok 2 hL hi (by decide)) ?_
  rw [e1]
  refine ju_callv (pc := 361) (as := [_, _]) d13000_361 jL_13_44 jM_Mo_village rfl (by decide) e3 rfl (by exact Nat.le_of_ble_eq_true rfl) t2 (fun r2 h2 q2 => ?_)
  obtain ⟨rfl, e4, hn2⟩ := q2
  refine je_iceq (pc := 364) 1048 d13000_364 (by decide) (fun _ => ?_) (fun c => absurd rfl c)
  exact kk h2 hn2 (e4.trans (e2.trans hS))
theorem lw_c7 {Inv : Nat → jx_H → Prop} (hc : ∀ {n : Nat} (h : jx_H), Inv n h → h.1[1]? = some (.inr (.inl 0)) ∧ h.1[253]? = some (.inr (.inl 12))) (op : ∀ v1 : Int32, jo Inv 11 12048 [.int v1]) {n L bc bs : Nat} {h : jx_H} {Q : Option Value → jx_H → Prop} (hn512 : n < 512) (hn : Inv n h) (hS : h.1[0]? = some (.inl (5, L))) (hL : L ≤ 3072) (hi : 6 * n + 6 ≤ L) (kk : ∀ h2, Inv (n + 1) h2 → h2.1[0]? = some (.inl (5, L)) → jx_Ev 200 bc bs 13000 1048 [some (.ref 0), some (.ref 1), some (.ref 253), some (.int (nI (6 * n)))] [] h2 Q) : jx_Ev 200 (13 + bc) (206 + bs) 13000 369 [some (.ref 0), some (.ref 1), some (.ref 253), some (.int (nI (6 * n)))] [] h Q := by
  refine je_aload1 (pc := 369) d13000_369 rfl ?_
  refine je_aload0 (pc := 370) d13000_370 rfl ?_
  refine je_iload3 (pc := 371) d13000_371 rfl ?_
  refine je_iconst (pc := 372) (v := 1) d13000_372 rfl ?_
  refine je_iadd (pc := 373) d13000_373 ?_
  refine je_sald (pc := 374) d13000_374 hS (lw_ok 1 hL hi (by decide)) ?_
  refine je_callv (pc := 375) (as := [_]) (mc := 13) (ms := 206) d13000_375 jL_13_45 jM_Db_warm rfl (by decide) (hc h hn).1 rfl (by exact Nat.le_of_ble_eq_true rfl) (op _ n h hn512 hn) (fun r1 h1 q1 => ?_)
  obtain ⟨⟨e1, e2, e3⟩, v, rfl, t2⟩ := q1
  refine je_aload2 (pc := 378) d13000_378 rfl ?_
  refine je_aload0 (pc := 379) d13000_379 rfl ?_
  refine je_iload3 (pc := 380) d13000_380 rfl ?_
  refine je_iconst (pc := 381) (v := 1) d13000_381 rfl ?_
  refine je_iadd (pc := 382) d13000_382 ?_
  refine je_sald (pc := 383) d13000_383 (e2.trans hS) (lw_ok 1 hL hi (by decide)) ?_
  rw [e1]
  refine ju_callv (pc := 384) (as := [_]) d13000_384 jL_13_48 jM_Mo_warm rfl (by decide) e3 rfl (by exact Nat.le_of_ble_eq_true rfl) t2 (fun r2 h2 q2 => ?_)
  obtain ⟨rfl, e4, hn2⟩ := q2
  refine je_iceq (pc := 387) 1048 d13000_387 (by decide) (fun _ => ?_) (fun c => absurd rfl c)
  exact kk h2 hn2 (e4.trans (e2.trans hS))
theorem lw_c8 {Inv : Nat → jx_H → Prop} (hc : ∀ {n : Nat} (h : jx_H), Inv n h → h.1[1]? = some (.inr (.inl 0)) ∧ h.1[253]? = some (.inr (.inl 12))) (op : jo Inv 13 12055 []) {n L bc bs : Nat} {h : jx_H} {Q : Option Value → jx_H → Prop} (hn512 : n < 512) (hn : Inv n h) (hS : h.1[0]? = some (.inl (5, L))) (hL : L ≤ 3072) (hi : 6 * n + 6 ≤ L) (kk : ∀ h2, Inv (n + 1) h2 → h2.1[0]? = some (.inl (5, L)) → jx_Ev 200 bc bs 13000 1048 [some (.ref 0), some (.ref 1), some (.ref 253), some (.int (nI (6 * n)))] [] h2 Q) : jx_Ev 200 (13 + bc) (206 + bs) 13000 392 [some (.ref 0), some (.ref 1), some (.ref 253), some (.int (nI (6 * n)))] [] h Q := by
  refine je_aload1 (pc := 392) d13000_392 rfl ?_
  refine je_callv (pc := 393) (as := []) (mc := 13) (ms := 206) d13000_393 jL_13_49 jM_Db_night rfl (by decide) (hc h hn).1 rfl (by exact Nat.le_of_ble_eq_true rfl) (op  n h hn512 hn) (fun r1 h1 q1 => ?_)
  obtain ⟨⟨e1, e2, e3⟩, v, rfl, t2⟩ := q1
  refine je_aload2 (pc := 396) d13000_396 rfl ?_
  refine ju_callv (pc := 397) (as := []) d13000_397 jL_13_52 jM_Mo_night rfl (by decide) e3 rfl (by exact Nat.le_of_ble_eq_true rfl) t2 (fun r2 h2 q2 => ?_)
  obtain ⟨rfl, e4, hn2⟩ := q2
  refine je_iceq (pc := 400) 1048 d13000_400 (by decide) (fun _ => ?_) (fun c => absurd rfl c)
  exact kk h2 hn2 (e4.trans (e2.trans hS))
theorem lw_c9 {Inv : Nat → jx_H → Prop} (hc : ∀ {n : Nat} (h : jx_H), Inv n h → h.1[1]? = some (.inr (.inl 0)) ∧ h.1[253]? = some (.inr (.inl 12))) (op : ∀ v1 v2 : Int32, jo Inv 18 12070 [.int v1, .int v2]) {n L bc bs : Nat} {h : jx_H} {Q : Option Value → jx_H → Prop} (hn512 : n < 512) (hn : Inv n h) (hS : h.1[0]? = some (.inl (5, L))) (hL : L ≤ 3072) (hi : 6 * n + 6 ≤ L) (kk : ∀ h2, Inv (n + 1) h2 → h2.1[0]? = some (.inl (5, L)) → jx_Ev 200 bc bs 13000 1048 [some (.ref 0), some (.ref 1), some (.ref 253), some (.int (nI (6 * n)))] [] h2 Q) : jx_Ev 200 (13 + bc) (206 + bs) 13000 405 [some (.ref 0), some (.ref 1), some (.ref 253), some (.int (nI (6 * n)))] [] h Q := by
  refine je_aload1 (pc := 405) d13000_405 rfl ?_
  refine je_aload0 (pc := 406) d13000_406 rfl ?_
  refine je_iload3 (pc := 407) d13000_407 rfl ?_
  refine je_iconst (pc := 408) (v := 1) d13000_408 rfl ?_
  refine je_iadd (pc := 409) d13000_409 ?_
  refine je_sald (pc := 410) d13000_410 hS (lw_ok 1 hL hi (by decide)) ?_
  refine je_aload0 (pc := 411) d13000_411 rfl ?_
  refine je_iload3 (pc := 412) d13000_412 rfl ?_
  refine je_iconst (pc := 413) (v := 2) d13000_413 rfl ?_
  refine je_iadd (pc := 414) d13000_414 ?_
  refine je_sald (pc := 415) d13000_415 hS (lw_ok 2 hL hi (by decide)) ?_
  refine je_callv (pc := 416) (as := [_, _]) (mc := 13) (ms := 206) d13000_416 jL_13_53 jM_Db_horses rfl (by decide) (hc h hn).1 rfl (by exact Nat.le_of_ble_eq_true rfl) (op _ _ n h hn512 hn) (fun r1 h1 q1 => ?_)
  obtain ⟨⟨e1, e2, e3⟩, v, rfl, t2⟩ := q1
  refine je_aload2 (pc := 419) d13000_419 rfl ?_
  refine je_aload0 (pc := 420) d13000_420 rfl ?_
  refine je_iload3 (pc := 421) d13000_421 rfl ?_
  refine je_iconst (pc := 422) (v := 1) d13000_422 rfl ?_
  refine je_iadd (pc := 423) d13000_423 ?_
  refine je_sald (pc := 424) d13000_424 (e2.trans hS) (lw_ok 1 hL hi (by decide)) ?_
  refine je_aload0 (pc := 425) d13000_425 rfl ?_
  refine je_iload3 (pc := 426) d13000_426 rfl ?_
  refine je_iconst (pc := 427) (v := 2) d13000_427 rfl ?_
  refine je_iadd (pc := 428) d13000_428 ?_
  refine je_sald (pc := 429) d13000_429 (e2.trans hS) (lw_ok 2 hL hi (by decide)) ?_
  rw [e1]
  refine ju_callv (pc := 430) (as := [_, _]) d13000_430 jL_13_56 jM_Mo_horses rfl (by decide) e3 rfl (by exact Nat.le_of_ble_eq_true rfl) t2 (fun r2 h2 q2 => ?_)
  obtain ⟨rfl, e4, hn2⟩ := q2
  refine je_iceq (pc := 433) 1048 d13000_433 (by decide) (fun _ => ?_) (fun c => absurd rfl c)
  exact kk h2 hn2 (e4.trans (e2.trans hS))
theorem lw_c10 {Inv : Nat → jx_H → Prop} (hc : ∀ {n : Nat} (h : jx_H), Inv n h → h.1[1]? = some (.inr (.inl 0)) ∧ h.1[253]? = some (.inr (.inl 12))) (op : ∀ v1 : Int32, jo Inv 20 12073 [.int v1]) {n L bc bs : Nat} {h : jx_H} {Q : Option Value → jx_H → Prop} (hn512 : n < 512) (hn : Inv n h) (hS : h.1[0]? = some (.inl (5, L))) (hL : L ≤ 3072) (hi : 6 * n + 6 ≤ L) (kk : ∀ h2, Inv (n + 1) h2 → h2.1[0]? = some (.inl (5, L)) → jx_Ev 200 bc bs 13000 1048 [some (.ref 0), some (.ref 1), some (.ref 253), some (.int (nI (6 * n)))] [] h2 Q) : jx_Ev 200 (13 + bc) (206 + bs) 13000 438 [some (.ref 0), some (.ref 1), some (.ref 253), some (.int (nI (6 * n)))] [] h Q := by
  refine je_aload1 (pc := 438) d13000_438 rfl ?_
  refine je_aload0 (pc := 439) d13000_439 rfl ?_
  refine je_iload3 (pc := 440) d13000_440 rfl ?_
  refine je_iconst (pc := 441) (v := 1) d13000_441 rfl ?_
  refine je_iadd (pc := 442) d13000_442 ?_
  refine je_sald (pc := 443) d13000_443 hS (lw_ok 1 hL hi (by decide)) ?_
  refine je_callv (pc := 444) (as := [_]) (mc := 13) (ms := 206) d13000_444 jL_13_57 jM_Db_salt rfl (by decide) (hc h hn).1 rfl (by exact Nat.le_of_ble_eq_true rfl) (op _ n h hn512 hn) (fun r1 h1 q1 => ?_)
  obtain ⟨⟨e1, e2, e3⟩, v, rfl, t2⟩ := q1
  refine je_aload2 (pc := 447) d13000_447 rfl ?_
  refine je_aload0 (pc := 448) d13000_448 rfl ?_
  refine je_iload3 (pc := 449) d13000_449 rfl ?_
  refine je_iconst (pc := 450) (v := 1) d13000_450 rfl ?_
  refine je_iadd (pc := 451) d13000_451 ?_
  refine je_sald (pc := 452) d13000_452 (e2.trans hS) (lw_ok 1 hL hi (by decide)) ?_
  rw [e1]
  refine ju_callv (pc := 453) (as := [_]) d13000_453 jL_13_60 jM_Mo_salt rfl (by decide) e3 rfl (by exact Nat.le_of_ble_eq_true rfl) t2 (fun r2 h2 q2 => ?_)
  obtain ⟨rfl, e4, hn2⟩ := q2
  refine je_iceq (pc := 456) 1048 d13000_456 (by decide) (fun _ => ?_) (fun c => absurd rfl c)
  exact kk h2 hn2 (e4.trans (e2.trans hS))
theorem lw_c11 {Inv : Nat → jx_H → Prop} (hc : ∀ {n : Nat} (h : jx_H), Inv n h → h.1[1]? = some (.inr (.inl 0)) ∧ h.1[253]? = some (.inr (.inl 12))) (op : ∀ v1 : Int32, jo Inv 21 12074 [.int v1]) {n L bc bs : Nat} {h : jx_H} {Q : Option Value → jx_H → Prop} (hn512 : n < 512) (hn : Inv n h) (hS : h.1[0]? = some (.inl (5, L))) (hL : L ≤ 3072) (hi : 6 * n + 6 ≤ L) (kk : ∀ h2, Inv (n + 1) h2 → h2.1[0]? = some (.inl (5, L)) → jx_Ev 200 bc bs 13000 1048 [some (.ref 0), some (.ref 1), some (.ref 253), some (.int (nI (6 * n)))] [] h2 Q) : jx_Ev 200 (13 + bc) (206 + bs) 13000 461 [some (.ref 0), some (.ref 1), some (.ref 253), some (.int (nI (6 * n)))] [] h Q := by
  refine je_aload1 (pc := 461) d13000_461 rfl ?_
  refine je_aload0 (pc := 462) d13000_462 rfl ?_
  refine je_iload3 (pc := 463) d13000_463 rfl ?_
  refine je_iconst (pc := 464) (v := 1) d13000_464 rfl ?_
  refine je_iadd (pc := 465) d13000_465 ?_
  refine je_sald (pc := 466) d13000_466 hS (lw_ok 1 hL hi (by decide)) ?_
  refine je_callv (pc := 467) (as := [_]) (mc := 13) (ms := 206) d13000_467 jL_13_61 jM_Db_sugar rfl (by decide) (hc h hn).1 rfl (by exact Nat.le_of_ble_eq_true rfl) (op _ n h hn512 hn) (fun r1 h1 q1 => ?_)
  obtain ⟨⟨e1, e2, e3⟩, v, rfl, t2⟩ := q1
  refine je_aload2 (pc := 470) d13000_470 rfl ?_
  refine je_aload0 (pc := 471) d13000_471 rfl ?_
  refine je_iload3 (pc := 472) d13000_472 rfl ?_
  refine je_iconst (pc := 473) (v := 1) d13000_473 rfl ?_
  refine je_iadd (pc := 474) d13000_474 ?_
  refine je_sald (pc := 475) d13000_475 (e2.trans hS) (lw_ok 1 hL hi (by decide)) ?_
  rw [e1]
  refine ju_callv (pc := 476) (as := [_]) d13000_476 jL_13_64 jM_Mo_sugar rfl (by decide) e3 rfl (by exact Nat.le_of_ble_eq_true rfl) t2 (fun r2 h2 q2 => ?_)
  obtain ⟨rfl, e4, hn2⟩ := q2
  refine je_iceq (pc := 479) 1048 d13000_479 (by decide) (fun _ => ?_) (fun c => absurd rfl c)
  exact kk h2 hn2 (e4.trans (e2.trans hS))
theorem lw_c12 {Inv : Nat → jx_H → Prop} (hc : ∀ {n : Nat} (h : jx_H), Inv n h → h.1[1]? = some (.inr (.inl 0)) ∧ h.1[253]? = some (.inr (.inl 12))) (op : ∀ v1 v2 : Int32, jo Inv 22 12075 [.int v1, .int v2]) {n L bc bs : Nat} {h : jx_H} {Q : Option Value → jx_H → Prop} (hn512 : n < 512) (hn : Inv n h) (hS : h.1[0]? = some (.inl (5, L))) (hL : L ≤ 3072) (hi : 6 * n + 6 ≤ L) (kk : ∀ h2, Inv (n + 1) h2 → h2.1[0]? = some (.inl (5, L)) → jx_Ev 200 bc bs 13000 1048 [some (.ref 0), some (.ref 1), some (.ref 253), some (.int (nI (6 * n)))] [] h2 Q) : jx_Ev 200 (13 + bc) (206 + bs) 13000 484 [some (.ref 0), some (.ref 1), some (.ref 253), some (.int (nI (6 * n)))] [] h Q := by
  refine je_aload1 (pc := 484) d13000_484 rfl ?_
  refine je_aload0 (pc := 485) d13000_485 rfl ?_
  refine je_iload3 (pc := 486) d13000_486 rfl ?_
  refine je_iconst (pc := 487) (v := 1) d13000_487 rfl ?_
  refine je_iadd (pc := 488) d13000_488 ?_
  refine je_sald (pc := 489) d13000_489 hS (lw_ok 1 hL hi (by decide)) ?_
  refine je_aload0 (pc := 490) d13000_490 rfl ?_
  refine je_iload3 (pc := 491) d13000_491 rfl ?_
  refine je_iconst (pc := 492) (v := 2) d13000_492 rfl ?_
  refine je_iadd (pc := 493) d13000_493 ?_
  refine je_sald (pc := 494) d13000_494 hS (lw_ok 2 hL hi (by decide)) ?_
  refine je_callv (pc := 495) (as := [_, _]) (mc := 13) (ms := 206) d13000_495 jL_13_65 jM_Db_slice rfl (by decide) (hc h hn).1 rfl (by exact Nat.le_of_ble_eq_true rfl) (op _ _ n h hn512 hn) (fun r1 h1 q1 => ?_)
  obtain ⟨⟨e1, e2, e3⟩, v, rfl, t2⟩ := q1
  refine je_aload2 (pc := 498) d13000_498 rfl ?_
  refine je_aload0 (pc := 499) d13000_499 rfl ?_
  refine je_iload3 (pc := 500) d13000_500 rfl ?_
  refine je_iconst (pc := 501) (v := 1) d13000_501 rfl ?_
  refine je_iadd (pc := 502) d13000_502 ?_
  refine je_sald (pc := 503) d13000_503 (e2.trans hS) (lw_ok 1 hL hi (by decide)) ?_
  refine je_aload0 (pc := 504) d13000_504 rfl ?_
  refine je_iload3 (pc := 505) d13000_505 rfl ?_
  refine je_iconst (pc := 506) (v := 2) d13000_506 rfl ?_
  refine je_iadd (pc := 507) d13000_507 ?_
  refine je_sald (pc := 508) d13000_508 (e2.trans hS) (lw_ok 2 hL hi (by decide)) ?_
  rw [e1]
  refine ju_callv (pc := 509) (as := [_, _]) d13000_509 jL_13_68 jM_Mo_slice rfl (by decide) e3 rfl (by exact Nat.le_of_ble_eq_true rfl) t2 (fun r2 h2 q2 => ?_)
  obtain ⟨rfl, e4, hn2⟩ := q2
  refine je_iceq (pc := 512) 1048 d13000_512 (by decide) (fun _ => ?_) (fun c => absurd rfl c)
  exact kk h2 hn2 (e4.trans (e2.trans hS))
theorem lw_c13 {Inv : Nat → jx_H → Prop} (hc : ∀ {n : Nat} (h : jx_H), Inv n h → h.1[1]? = some (.inr (.inl 0)) ∧ h.1[253]? = some (.inr (.inl 12))) (op : ∀ v1 : Int32, jo Inv 23 12076 [.int v1]) {n L bc bs : Nat} {h : jx_H} {Q : Option Value → jx_H → Prop} (hn512 : n < 512) (hn : Inv n h) (hS : h.1[0]? = some (.inl (5, L))) (hL : L ≤ 3072) (hi : 6 * n + 6 ≤ L) (kk : ∀ h2, Inv (n + 1) h2 → h2.1[0]? = some (.inl (5, L)) → jx_Ev 200 bc bs 13000 1048 [some (.ref 0), some (.ref 1), some (.ref 253), some (.int (nI (6 * n)))] [] h2 Q) : jx_Ev 200 (13 + bc) (206 + bs) 13000 517 [some (.ref 0), some (.ref 1), some (.ref 253), some (.int (nI (6 * n)))] [] h Q := by
  refine je_aload1 (pc := 517) d13000_517 rfl ?_
  refine je_aload0 (pc := 518) d13000_518 rfl ?_
  refine je_iload3 (pc := 519) d13000_519 rfl ?_
  refine je_iconst (pc := 520) (v := 1) d13000_520 rfl ?_
  refine je_iadd (pc := 521) d13000_521 ?_
  refine je_sald (pc := 522) d13000_522 hS (lw_ok 1 hL hi (by decide)) ?_
  refine je_callv (pc := 523) (as := [_]) (mc := 13) (ms := 206) d13000_523 jL_13_69 jM_Db_bake rfl (by decide) (hc h hn).1 rfl (by exact Nat.le_of_ble_eq_true rfl) (op _ n h hn512 hn) (fun r1 h1 q1 => ?_)
  obtain ⟨⟨e1, e2, e3⟩, v, rfl, t2⟩ := q1
  refine je_aload2 (pc := 526) d13000_526 rfl ?_
  refine je_aload0 (pc := 527) d13000_527 rfl ?_
  refine je_iload3 (pc := 528) d13000_528 rfl ?_
  refine je_iconst (pc := 529) (v := 1) d13000_529 rfl ?_
  refine je_iadd (pc := 530) d13000_530 ?_
  refine je_sald (pc := 531) d13000_531 (e2.trans hS) (lw_ok 1 hL hi (by decide)) ?_
  rw [e1]
  refine ju_callv (pc := 532) (as := [_]) d13000_532 jL_13_73 jM_Mo_bake rfl (by decide) e3 rfl (by exact Nat.le_of_ble_eq_true rfl) t2 (fun r2 h2 q2 => ?_)
  obtain ⟨rfl, e4, hn2⟩ := q2
  refine je_iceq (pc := 535) 1048 d13000_535 (by decide) (fun _ => ?_) (fun c => absurd rfl c)
  exact kk h2 hn2 (e4.trans (e2.trans hS))
theorem lw_c14 {Inv : Nat → jx_H → Prop} (hc : ∀ {n : Nat} (h : jx_H), Inv n h → h.1[1]? = some (.inr (.inl 0)) ∧ h.1[253]? = some (.inr (.inl 12))) (op : jo Inv 24 12051 []) {n L bc bs : Nat} {h : jx_H} {Q : Option Value → jx_H → Prop} (hn512 : n < 512) (hn : Inv n h) (hS : h.1[0]? = some (.inl (5, L))) (hL : L ≤ 3072) (hi : 6 * n + 6 ≤ L) (kk : ∀ h2, Inv (n + 1) h2 → h2.1[0]? = some (.inl (5, L)) → jx_Ev 200 bc bs 13000 1048 [some (.ref 0), some (.ref 1), some (.ref 253), some (.int (nI (6 * n)))] [] h2 Q) : jx_Ev 200 (13 + bc) (206 + bs) 13000 540 [some (.ref 0), some (.ref 1), some (.ref 253), some (.int (nI (6 * n)))] [] h Q := by
  refine je_aload1 (pc := 540) d13000_540 rfl ?_
  refine je_callv (pc := 541) (as := []) (mc := 13) (ms := 206) d13000_541 jL_13_74 jM_Db_undo rfl (by decide) (hc h hn).1 rfl (by exact Nat.le_of_ble_eq_true rfl) (op  n h hn512 hn) (fun r1 h1 q1 => ?_)
  obtain ⟨⟨e1, e2, e3⟩, v, rfl, t2⟩ := q1
  refine je_aload2 (pc := 544) d13000_544 rfl ?_
  refine ju_callv (pc := 545) (as := []) d13000_545 jL_13_77 jM_Mo_undo rfl (by decide) e3 rfl (by exact Nat.le_of_ble_eq_true rfl) t2 (fun r2 h2 q2 => ?_)
  obtain ⟨rfl, e4, hn2⟩ := q2
  refine je_iceq (pc := 548) 1048 d13000_548 (by decide) (fun _ => ?_) (fun c => absurd rfl c)
  exact kk h2 hn2 (e4.trans (e2.trans hS))
theorem lw_c15 {Inv : Nat → jx_H → Prop} (hc : ∀ {n : Nat} (h : jx_H), Inv n h → h.1[1]? = some (.inr (.inl 0)) ∧ h.1[253]? = some (.inr (.inl 12))) (op : ∀ v1 v2 v3 : Int32, jo Inv 25 12077 [.int v1, .int v2, .int v3]) {n L bc bs : Nat} {h : jx_H} {Q : Option Value → jx_H → Prop} (hn512 : n < 512) (hn : Inv n h) (hS : h.1[0]? = some (.inl (5, L))) (hL : L ≤ 3072) (hi : 6 * n + 6 ≤ L) (kk : ∀ h2, Inv (n + 1) h2 → h2.1[0]? = some (.inl (5, L)) → jx_Ev 200 bc bs 13000 1048 [some (.ref 0), some (.ref 1), some (.ref 253), some (.int (nI (6 * n)))] [] h2 Q) : jx_Ev 200 (13 + bc) (206 + bs) 13000 553 [some (.ref 0), some (.ref 1), some (.ref 253), some (.int (nI (6 * n)))] [] h Q := by
  refine je_aload1 (pc := 553) d13000_553 rfl ?_
  refine je_aload0 (pc := 554) d13000_554 rfl ?_
  refine je_iload3 (pc := 555) d13000_555 rfl ?_
  refine je_iconst (pc := 556) (v := 1) d13000_556 rfl ?_
  refine je_iadd (pc := 557) d13000_557 ?_
  refine je_sald (pc := 558) d13000_558 hS (lw_ok 1 hL hi (by decide)) ?_
  refine je_aload0 (pc := 559) d13000_559 rfl ?_
  refine je_iload3 (pc := 560) d13000_560 rfl ?_
  refine je_iconst (pc := 561) (v := 2) d13000_561 rfl ?_
  refine je_iadd (pc := 562) d13000_562 ?_
  refine je_sald (pc := 563) d13000_563 hS (lw_ok 2 hL hi (by decide)) ?_
  refine je_aload0 (pc := 564) d13000_564 rfl ?_
  refine je_iload3 (pc := 565) d13000_565 rfl ?_
  refine je_iconst (pc := 566) (v := 3) d13000_566 rfl ?_
  refine je_iadd (pc := 567) d13000_567 ?_
  refine je_sald (pc := 568) d13000_568 hS (lw_ok 3 hL hi (by decide)) ?_
  refine je_callv (pc := 569) (as := [_, _, _]) (mc := 13) (ms := 206) d13000_569 jL_13_78 jM_Db_ahead rfl (by decide) (hc h hn).1 rfl (by exact Nat.le_of_ble_eq_true rfl) (op _ _ _ n h hn512 hn) (fun r1 h1 q1 => ?_)
  obtain ⟨⟨e1, e2, e3⟩, v, rfl, t2⟩ := q1
  refine je_aload2 (pc := 572) d13000_572 rfl ?_
  refine je_aload0 (pc := 573) d13000_573 rfl ?_
  refine je_iload3 (pc := 574) d13000_574 rfl ?_
  refine je_iconst (pc := 575) (v := 1) d13000_575 rfl ?_
  refine je_iadd (pc := 576) d13000_576 ?_
  refine je_sald (pc := 577) d13000_577 (e2.trans hS) (lw_ok 1 hL hi (by decide)) ?_
  refine je_aload0 (pc := 578) d13000_578 rfl ?_
  refine je_iload3 (pc := 579) d13000_579 rfl ?_
  refine je_iconst (pc := 580) (v := 2) d13000_580 rfl ?_
  refine je_iadd (pc := 581) d13000_581 ?_
  refine je_sald (pc := 582) d13000_582 (e2.trans hS) (lw_ok 2 hL hi (by decide)) ?_
  refine je_aload0 (pc := 583) d13000_583 rfl ?_
  refine je_iload3 (pc := 584) d13000_584 rfl ?_
  refine je_iconst (pc := 585) (v := 3) d13000_585 rfl ?_
  refine je_iadd (pc := 586) d13000_586 ?_
  refine je_sald (pc := 587) d13000_587 (e2.trans hS) (lw_ok 3 hL hi (by decide)) ?_
  rw [e1]
  refine ju_callv (pc := 588) (as := [_, _, _]) d13000_588 jL_13_82 jM_Mo_ahead rfl (by decide) e3 rfl (by exact Nat.le_of_ble_eq_true rfl) t2 (fun r2 h2 q2 => ?_)
  obtain ⟨rfl, e4, hn2⟩ := q2
  refine je_iceq (pc := 591) 1048 d13000_591 (by decide) (fun _ => ?_) (fun c => absurd rfl c)
  exact kk h2 hn2 (e4.trans (e2.trans hS))
theorem lw_c16 {Inv : Nat → jx_H → Prop} (hc : ∀ {n : Nat} (h : jx_H), Inv n h → h.1[1]? = some (.inr (.inl 0)) ∧ h.1[253]? = some (.inr (.inl 12))) (op : ∀ v1 : Int32, jo Inv 26 12084 [.int v1]) {n L bc bs : Nat} {h : jx_H} {Q : Option Value → jx_H → Prop} (hn512 : n < 512) (hn : Inv n h) (hS : h.1[0]? = some (.inl (5, L))) (hL : L ≤ 3072) (hi : 6 * n + 6 ≤ L) (kk : ∀ h2, Inv (n + 1) h2 → h2.1[0]? = some (.inl (5, L)) → jx_Ev 200 bc bs 13000 1048 [some (.ref 0), some (.ref 1), some (.ref 253), some (.int (nI (6 * n)))] [] h2 Q) : jx_Ev 200 (13 + bc) (206 + bs) 13000 596 [some (.ref 0), some (.ref 1), some (.ref 253), some (.int (nI (6 * n)))] [] h Q := by
  refine je_aload1 (pc := 596) d13000_596 rfl ?_
  refine je_aload0 (pc := 597) d13000_597 rfl ?_
  refine je_iload3 (pc := 598) d13000_598 rfl ?_
  refine je_iconst (pc := 599) (v := 1) d13000_599 rfl ?_
  refine je_iadd (pc := 600) d13000_600 ?_
  refine je_sald (pc := 601) d13000_601 hS (lw_ok 1 hL hi (by decide)) ?_
  refine je_callv (pc := 602) (as := [_]) (mc := 13) (ms := 206) d13000_602 jL_13_83 jM_Db_crosses rfl (by decide) (hc h hn).1 rfl (by exact Nat.le_of_ble_eq_true rfl) (op _ n h hn512 hn) (fun r1 h1 q1 => ?_)
  obtain ⟨⟨e1, e2, e3⟩, v, rfl, t2⟩ := q1
  refine je_aload2 (pc := 605) d13000_605 rfl ?_
  refine je_aload0 (pc := 606) d13000_606 rfl ?_
  refine je_iload3 (pc := 607) d13000_607 rfl ?_
  refine je_iconst (pc := 608) (v := 1) d13000_608 rfl ?_
  refine je_iadd (pc := 609) d13000_609 ?_
  refine je_sald (pc := 610) d13000_610 (e2.trans hS) (lw_ok 1 hL hi (by decide)) ?_
  rw [e1]
  refine ju_callv (pc := 611) (as := [_]) d13000_611 jL_13_86 jM_Mo_crosses rfl (by decide) e3 rfl (by exact Nat.le_of_ble_eq_true rfl) t2 (fun r2 h2 q2 => ?_)
  obtain ⟨rfl, e4, hn2⟩ := q2
  refine je_iceq (pc := 614) 1048 d13000_614 (by decide) (fun _ => ?_) (fun c => absurd rfl c)
  exact kk h2 hn2 (e4.trans (e2.trans hS))
theorem lw_c17 {Inv : Nat → jx_H → Prop} (hc : ∀ {n : Nat} (h : jx_H), Inv n h → h.1[1]? = some (.inr (.inl 0)) ∧ h.1[253]? = some (.inr (.inl 12))) (op : ∀ v1 v2 : Int32, jo Inv 27 12085 [.int v1, .int v2]) {n L bc bs : Nat} {h : jx_H} {Q : Option Value → jx_H → Prop} (hn512 : n < 512) (hn : Inv n h) (hS : h.1[0]? = some (.inl (5, L))) (hL : L ≤ 3072) (hi : 6 * n + 6 ≤ L) (kk : ∀ h2, Inv (n + 1) h2 → h2.1[0]? = some (.inl (5, L)) → jx_Ev 200 bc bs 13000 1048 [some (.ref 0), some (.ref 1), some (.ref 253), some (.int (nI (6 * n)))] [] h2 Q) : jx_Ev 200 (13 + bc) (206 + bs) 13000 619 [some (.ref 0), some (.ref 1), some (.ref 253), some (.int (nI (6 * n)))] [] h Q := by
  refine je_aload1 (pc := 619) d13000_619 rfl ?_
  refine je_aload0 (pc := 620) d13000_620 rfl ?_
  refine je_iload3 (pc := 621) d13000_621 rfl ?_
  refine je_iconst (pc := 622) (v := 1) d13000_622 rfl ?_
  refine je_iadd (pc := 623) d13000_623 ?_
  refine je_sald (pc := 624) d13000_624 hS (lw_ok 1 hL hi (by decide)) ?_
  refine je_aload0 (pc := 625) d13000_625 rfl ?_
  refine je_iload3 (pc := 626) d13000_626 rfl ?_
  refine je_iconst (pc := 627) (v := 2) d13000_627 rfl ?_
  refine je_iadd (pc := 628) d13000_628 ?_
  refine je_sald (pc := 629) d13000_629 hS (lw_ok 2 hL hi (by decide)) ?_
  refine je_callv (pc := 630) (as := [_, _]) (mc := 13) (ms := 206) d13000_630 jL_13_87 jM_Db_push rfl (by decide) (hc h hn).1 rfl (by exact Nat.le_of_ble_eq_true rfl) (op _ _ n h hn512 hn) (fun r1 h1 q1 => ?_)
  obtain ⟨⟨e1, e2, e3⟩, v, rfl, t2⟩ := q1
  refine je_aload2 (pc := 633) d13000_633 rfl ?_
  refine je_aload0 (pc := 634) d13000_634 rfl ?_
  refine je_iload3 (pc := 635) d13000_635 rfl ?_
  refine je_iconst (pc := 636) (v := 1) d13000_636 rfl ?_
  refine je_iadd (pc := 637) d13000_637 ?_
  refine je_sald (pc := 638) d13000_638 (e2.trans hS) (lw_ok 1 hL hi (by decide)) ?_
  refine je_aload0 (pc := 639) d13000_639 rfl ?_
  refine je_iload3 (pc := 640) d13000_640 rfl ?_
  refine je_iconst (pc := 641) (v := 2) d13000_641 rfl ?_
  refine je_iadd (pc := 642) d13000_642 ?_
  refine je_sald (pc := 643) d13000_643 (e2.trans hS) (lw_ok 2 hL hi (by decide)) ?_
  rw [e1]
  refine ju_callv (pc := 644) (as := [_, _]) d13000_644 jL_13_90 jM_Mo_push rfl (by decide) e3 rfl (by exact Nat.le_of_ble_eq_true rfl) t2 (fun r2 h2 q2 => ?_)
  obtain ⟨rfl, e4, hn2⟩ := q2
  refine je_iceq (pc := 647) 1048 d13000_647 (by decide) (fun _ => ?_) (fun c => absurd rfl c)
  exact kk h2 hn2 (e4.trans (e2.trans hS))
theorem lw_c18 {Inv : Nat → jx_H → Prop} (hc : ∀ {n : Nat} (h : jx_H), Inv n h → h.1[1]? = some (.inr (.inl 0)) ∧ h.1[253]? = some (.inr (.inl 12))) (op : ∀ v1 v2 : Int32, jo Inv 28 12089 [.int v1, .int v2]) {n L bc bs : Nat} {h : jx_H} {Q : Option Value → jx_H → Prop} (hn512 : n < 512) (hn : Inv n h) (hS : h.1[0]? = some (.inl (5, L))) (hL : L ≤ 3072) (hi : 6 * n + 6 ≤ L) (kk : ∀ h2, Inv (n + 1) h2 → h2.1[0]? = some (.inl (5, L)) → jx_Ev 200 bc bs 13000 1048 [some (.ref 0), some (.ref 1), some (.ref 253), some (.int (nI (6 * n)))] [] h2 Q) : jx_Ev 200 (13 + bc) (206 + bs) 13000 652 [some (.ref 0), some (.ref 1), some (.ref 253), some (.int (nI (6 * n)))] [] h Q := by
  refine je_aload1 (pc := 652) d13000_652 rfl ?_
  refine je_aload0 (pc := 653) d13000_653 rfl ?_
  refine je_iload3 (pc := 654) d13000_654 rfl ?_
  refine je_iconst (pc := 655) (v := 1) d13000_655 rfl ?_
  refine je_iadd (pc := 656) d13000_656 ?_
  refine je_sald (pc := 657) d13000_657 hS (lw_ok 1 hL hi (by decide)) ?_
  refine je_aload0 (pc := 658) d13000_658 rfl ?_
  refine je_iload3 (pc := 659) d13000_659 rfl ?_
  refine je_iconst (pc := 660) (v := 2) d13000_660 rfl ?_
  refine je_iadd (pc := 661) d13000_661 ?_
  refine je_sald (pc := 662) d13000_662 hS (lw_ok 2 hL hi (by decide)) ?_
  refine je_callv (pc := 663) (as := [_, _]) (mc := 13) (ms := 206) d13000_663 jL_13_91 jM_Db_dukes rfl (by decide) (hc h hn).1 rfl (by exact Nat.le_of_ble_eq_true rfl) (op _ _ n h hn512 hn) (fun r1 h1 q1 => ?_)
  obtain ⟨⟨e1, e2, e3⟩, v, rfl, t2⟩ := q1
  refine je_aload2 (pc := 666) d13000_666 rfl ?_
  refine je_aload0 (pc := 667) d13000_667 rfl ?_
  refine je_iload3 (pc := 668) d13000_668 rfl ?_
  refine je_iconst (pc := 669) (v := 1) d13000_669 rfl ?_
  refine je_iadd (pc := 670) d13000_670 ?_
  refine je_sald (pc := 671) d13000_671 (e2.trans hS) (lw_ok 1 hL hi (by decide)) ?_
  refine je_aload0 (pc := 672) d13000_672 rfl ?_
  refine je_iload3 (pc := 673) d13000_673 rfl ?_
  refine je_iconst (pc := 674) (v := 2) d13000_674 rfl ?_
  refine je_iadd (pc := 675) d13000_675 ?_
  refine je_sald (pc := 676) d13000_676 (e2.trans hS) (lw_ok 2 hL hi (by decide)) ?_
  rw [e1]
  refine ju_callv (pc := 677) (as := [_, _]) d13000_677 jL_13_94 jM_Mo_dukes rfl (by decide) e3 rfl (by exact Nat.le_of_ble_eq_true rfl) t2 (fun r2 h2 q2 => ?_)
  obtain ⟨rfl, e4, hn2⟩ := q2
  refine je_iceq (pc := 680) 1048 d13000_680 (by decide) (fun _ => ?_) (fun c => absurd rfl c)
  exact kk h2 hn2 (e4.trans (e2.trans hS))
theorem lw_c19 {Inv : Nat → jx_H → Prop} (hc : ∀ {n : Nat} (h : jx_H), Inv n h → h.1[1]? = some (.inr (.inl 0)) ∧ h.1[253]? = some (.inr (.inl 12))) (op : ∀ v1 v2 v3 : Int32, jo Inv 29 12098 [.int v1, .int v2, .int v3]) {n L bc bs : Nat} {h : jx_H} {Q : Option Value → jx_H → Prop} (hn512 : n < 512) (hn : Inv n h) (hS : h.1[0]? = some (.inl (5, L))) (hL : L ≤ 3072) (hi : 6 * n + 6 ≤ L) (kk : ∀ h2, Inv (n + 1) h2 → h2.1[0]? = some (.inl (5, L)) → jx_Ev 200 bc bs 13000 1048 [some (.ref 0), some (.ref 1), some (.ref 253), some (.int (nI (6 * n)))] [] h2 Q) : jx_Ev 200 (13 + bc) (206 + bs) 13000 685 [some (.ref 0), some (.ref 1), some (.ref 253), some (.int (nI (6 * n)))] [] h Q := by
  refine je_aload1 (pc := 685) d13000_685 rfl ?_
  refine je_aload0 (pc := 686) d13000_686 rfl ?_
  refine je_iload3 (pc := 687) d13000_687 rfl ?_
  refine je_iconst (pc := 688) (v := 1) d13000_688 rfl ?_
  refine je_iadd (pc := 689) d13000_689 ?_
  refine je_sald (pc := 690) d13000_690 hS (lw_ok 1 hL hi (by decide)) ?_
  refine je_aload0 (pc := 691) d13000_691 rfl ?_
  refine je_iload3 (pc := 692) d13000_692 rfl ?_
  refine je_iconst (pc := 693) (v := 2) d13000_693 rfl ?_
  refine je_iadd (pc := 694) d13000_694 ?_
  refine je_sald (pc := 695) d13000_695 hS (lw_ok 2 hL hi (by decide)) ?_
  refine je_aload0 (pc := 696) d13000_696 rfl ?_
  refine je_iload3 (pc := 697) d13000_697 rfl ?_
  refine je_iconst (pc := 698) (v := 3) d13000_698 rfl ?_
  refine je_iadd (pc := 699) d13000_699 ?_
  refine je_sald (pc := 700) d13000_700 hS (lw_ok 3 hL hi (by decide)) ?_
  refine je_callv (pc := 701) (as := [_, _, _]) (mc := 13) (ms := 206) d13000_701 jL_13_95 jM_Db_log rfl (by decide) (hc h hn).1 rfl (by exact Nat.le_of_ble_eq_true rfl) (op _ _ _ n h hn512 hn) (fun r1 h1 q1 => ?_)
  obtain ⟨⟨e1, e2, e3⟩, v, rfl, t2⟩ := q1
  refine je_aload2 (pc := 704) d13000_704 rfl ?_
  refine je_aload0 (pc := 705) d13000_705 rfl ?_
  refine je_iload3 (pc := 706) d13000_706 rfl ?_
  refine je_iconst (pc := 707) (v := 1) d13000_707 rfl ?_
  refine je_iadd (pc := 708) d13000_708 ?_
  refine je_sald (pc := 709) d13000_709 (e2.trans hS) (lw_ok 1 hL hi (by decide)) ?_
  refine je_aload0 (pc := 710) d13000_710 rfl ?_
  refine je_iload3 (pc := 711) d13000_711 rfl ?_
  refine je_iconst (pc := 712) (v := 2) d13000_712 rfl ?_
  refine je_iadd (pc := 713) d13000_713 ?_
  refine je_sald (pc := 714) d13000_714 (e2.trans hS) (lw_ok 2 hL hi (by decide)) ?_
  refine je_aload0 (pc := 715) d13000_715 rfl ?_
  refine je_iload3 (pc := 716) d13000_716 rfl ?_
  refine je_iconst (pc := 717) (v := 3) d13000_717 rfl ?_
  refine je_iadd (pc := 718) d13000_718 ?_
  refine je_sald (pc := 719) d13000_719 (e2.trans hS) (lw_ok 3 hL hi (by decide)) ?_
  rw [e1]
  refine ju_callv (pc := 720) (as := [_, _, _]) d13000_720 jL_13_98 jM_Mo_log rfl (by decide) e3 rfl (by exact Nat.le_of_ble_eq_true rfl) t2 (fun r2 h2 q2 => ?_)
  obtain ⟨rfl, e4, hn2⟩ := q2
  refine je_iceq (pc := 723) 1048 d13000_723 (by decide) (fun _ => ?_) (fun c => absurd rfl c)
  exact kk h2 hn2 (e4.trans (e2.trans hS))
theorem lw_c20 {Inv : Nat → jx_H → Prop} (hc : ∀ {n : Nat} (h : jx_H), Inv n h → h.1[1]? = some (.inr (.inl 0)) ∧ h.1[253]? = some (.inr (.inl 12))) (op : ∀ v1 v2 : Int32, jo Inv 30 12099 [.int v1, .int v2]) {n L bc bs : Nat} {h : jx_H} {Q : Option Value → jx_H → Prop} (hn512 : n < 512) (hn : Inv n h) (hS : h.1[0]? = some (.inl (5, L))) (hL : L ≤ 3072) (hi : 6 * n + 6 ≤ L) (kk : ∀ h2, Inv (n + 1) h2 → h2.1[0]? = some (.inl (5, L)) → jx_Ev 200 bc bs 13000 1048 [some (.ref 0), some (.ref 1), some (.ref 253), some (.int (nI (6 * n)))] [] h2 Q) : jx_Ev 200 (13 + bc) (206 + bs) 13000 728 [some (.ref 0), some (.ref 1), some (.ref 253), some (.int (nI (6 * n)))] [] h Q := by
  refine je_aload1 (pc := 728) d13000_728 rfl ?_
  refine je_aload0 (pc := 729) d13000_729 rfl ?_
  refine je_iload3 (pc := 730) d13000_730 rfl ?_
  refine je_iconst (pc := 731) (v := 1) d13000_731 rfl ?_
  refine je_iadd (pc := 732) d13000_732 ?_
  refine je_sald (pc := 733) d13000_733 hS (lw_ok 1 hL hi (by decide)) ?_
  refine je_aload0 (pc := 734) d13000_734 rfl ?_
  refine je_iload3 (pc := 735) d13000_735 rfl ?_
  refine je_iconst (pc := 736) (v := 2) d13000_736 rfl ?_
  refine je_iadd (pc := 737) d13000_737 ?_
  refine je_sald (pc := 738) d13000_738 hS (lw_ok 2 hL hi (by decide)) ?_
  refine je_callv (pc := 739) (as := [_, _]) (mc := 13) (ms := 206) d13000_739 jL_13_99 jM_Db_theft rfl (by decide) (hc h hn).1 rfl (by exact Nat.le_of_ble_eq_true rfl) (op _ _ n h hn512 hn) (fun r1 h1 q1 => ?_)
  obtain ⟨⟨e1, e2, e3⟩, v, rfl, t2⟩ := q1
  refine je_aload2 (pc := 742) d13000_742 rfl ?_
  refine je_aload0 (pc := 743) d13000_743 rfl ?_
  refine je_iload3 (pc := 744) d13000_744 rfl ?_
  refine je_iconst (pc := 745) (v := 1) d13000_745 rfl ?_
  refine je_iadd (pc := 746) d13000_746 ?_
  refine je_sald (pc := 747) d13000_747 (e2.trans hS) (lw_ok 1 hL hi (by decide)) ?_
  refine je_aload0 (pc := 748) d13000_748 rfl ?_
  refine je_iload3 (pc := 749) d13000_749 rfl ?_
  refine je_iconst (pc := 750) (v := 2) d13000_750 rfl ?_
  refine je_iadd (pc := 751) d13000_751 ?_
  refine je_sald (pc := 752) d13000_752 (e2.trans hS) (lw_ok 2 hL hi (by decide)) ?_
  rw [e1]
  refine ju_callv (pc := 753) (as := [_, _]) d13000_753 jL_13_102 jM_Mo_theft rfl (by decide) e3 rfl (by exact Nat.le_of_ble_eq_true rfl) t2 (fun r2 h2 q2 => ?_)
  obtain ⟨rfl, e4, hn2⟩ := q2
  refine je_iceq (pc := 756) 1048 d13000_756 (by decide) (fun _ => ?_) (fun c => absurd rfl c)
  exact kk h2 hn2 (e4.trans (e2.trans hS))
theorem lw_c21 {Inv : Nat → jx_H → Prop} (hc : ∀ {n : Nat} (h : jx_H), Inv n h → h.1[1]? = some (.inr (.inl 0)) ∧ h.1[253]? = some (.inr (.inl 12))) (op : ∀ v1 v2 v3 : Int32, jo Inv 32 12102 [.int v1, .int v2, .int v3]) {n L bc bs : Nat} {h : jx_H} {Q : Option Value → jx_H → Prop} (hn512 : n < 512) (hn : Inv n h) (hS : h.1[0]? = some (.inl (5, L))) (hL : L ≤ 3072) (hi : 6 * n + 6 ≤ L) (kk : ∀ h2, Inv (n + 1) h2 → h2.1[0]? = some (.inl (5, L)) → jx_Ev 200 bc bs 13000 1048 [some (.ref 0), some (.ref 1), some (.ref 253), some (.int (nI (6 * n)))] [] h2 Q) : jx_Ev 200 (13 + bc) (206 + bs) 13000 761 [some (.ref 0), some (.ref 1), some (.ref 253), some (.int (nI (6 * n)))] [] h Q := by
  refine je_aload1 (pc := 761) d13000_761 rfl ?_
  refine je_aload0 (pc := 762) d13000_762 rfl ?_
  refine je_iload3 (pc := 763) d13000_763 rfl ?_
  refine je_iconst (pc := 764) (v := 1) d13000_764 rfl ?_
  refine je_iadd (pc := 765) d13000_765 ?_
  refine je_sald (pc := 766) d13000_766 hS (lw_ok 1 hL hi (by decide)) ?_
  refine je_aload0 (pc := 767) d13000_767 rfl ?_
  refine je_iload3 (pc := 768) d13000_768 rfl ?_
  refine je_iconst (pc := 769) (v := 2) d13000_769 rfl ?_
  refine je_iadd (pc := 770) d13000_770 ?_
  refine je_sald (pc := 771) d13000_771 hS (lw_ok 2 hL hi (by decide)) ?_
  refine je_aload0 (pc := 772) d13000_772 rfl ?_
  refine je_iload3 (pc := 773) d13000_773 rfl ?_
  refine je_iconst (pc := 774) (v := 3) d13000_774 rfl ?_
  refine je_iadd (pc := 775) d13000_775 ?_
  refine je_sald (pc := 776) d13000_776 hS (lw_ok 3 hL hi (by decide)) ?_
  refine je_callv (pc := 777) (as := [_, _, _]) (mc := 13) (ms := 206) d13000_777 jL_13_103 jM_Db_weigh rfl (by decide) (hc h hn).1 rfl (by exact Nat.le_of_ble_eq_true rfl) (op _ _ _ n h hn512 hn) (fun r1 h1 q1 => ?_)
  obtain ⟨⟨e1, e2, e3⟩, v, rfl, t2⟩ := q1
  refine je_aload2 (pc := 780) d13000_780 rfl ?_
  refine je_aload0 (pc := 781) d13000_781 rfl ?_
  refine je_iload3 (pc := 782) d13000_782 rfl ?_
  refine je_iconst (pc := 783) (v := 1) d13000_783 rfl ?_
  refine je_iadd (pc := 784) d13000_784 ?_
  refine je_sald (pc := 785) d13000_785 (e2.trans hS) (lw_ok 1 hL hi (by decide)) ?_
  refine je_aload0 (pc := 786) d13000_786 rfl ?_
  refine je_iload3 (pc := 787) d13000_787 rfl ?_
  refine je_iconst (pc := 788) (v := 2) d13000_788 rfl ?_
  refine je_iadd (pc := 789) d13000_789 ?_
  refine je_sald (pc := 790) d13000_790 (e2.trans hS) (lw_ok 2 hL hi (by decide)) ?_
  refine je_aload0 (pc := 791) d13000_791 rfl ?_
  refine je_iload3 (pc := 792) d13000_792 rfl ?_
  refine je_iconst (pc := 793) (v := 3) d13000_793 rfl ?_
  refine je_iadd (pc := 794) d13000_794 ?_
  refine je_sald (pc := 795) d13000_795 (e2.trans hS) (lw_ok 3 hL hi (by decide)) ?_
  rw [e1]
  refine ju_callv (pc := 796) (as := [_, _, _]) d13000_796 jL_13_106 jM_Mo_weigh rfl (by decide) e3 rfl (by exact Nat.le_of_ble_eq_true rfl) t2 (fun r2 h2 q2 => ?_)
  obtain ⟨rfl, e4, hn2⟩ := q2
  refine je_iceq (pc := 799) 1048 d13000_799 (by decide) (fun _ => ?_) (fun c => absurd rfl c)
  exact kk h2 hn2 (e4.trans (e2.trans hS))
theorem lw_c22 {Inv : Nat → jx_H → Prop} (hc : ∀ {n : Nat} (h : jx_H), Inv n h → h.1[1]? = some (.inr (.inl 0)) ∧ h.1[253]? = some (.inr (.inl 12))) (op : ∀ v1 v2 v3 v4 : Int32, jo Inv 33 12103 [.int v1, .int v2, .int v3, .int v4]) {n L bc bs : Nat} {h : jx_H} {Q : Option Value → jx_H → Prop} (hn512 : n < 512) (hn : Inv n h) (hS : h.1[0]? = some (.inl (5, L))) (hL : L ≤ 3072) (hi : 6 * n + 6 ≤ L) (kk : ∀ h2, Inv (n + 1) h2 → h2.1[0]? = some (.inl (5, L)) → jx_Ev 200 bc bs 13000 1048 [some (.ref 0), some (.ref 1), some (.ref 253), some (.int (nI (6 * n)))] [] h2 Q) : jx_Ev 200 (13 + bc) (206 + bs) 13000 804 [some (.ref 0), some (.ref 1), some (.ref 253), some (.int (nI (6 * n)))] [] h Q := by
  refine je_aload1 (pc := 804) d13000_804 rfl ?_
  refine je_aload0 (pc := 805) d13000_805 rfl ?_
  refine je_iload3 (pc := 806) d13000_806 rfl ?_
  refine je_iconst (pc := 807) (v := 1) d13000_807 rfl ?_
  refine je_iadd (pc := 808) d13000_808 ?_
  refine je_sald (pc := 809) d13000_809 hS (lw_ok 1 hL hi (by decide)) ?_
  refine je_aload0 (pc := 810) d13000_810 rfl ?_
  refine je_iload3 (pc := 811) d13000_811 rfl ?_
  refine je_iconst (pc := 812) (v := 2) d13000_812 rfl ?_
  refine je_iadd (pc := 813) d13000_813 ?_
  refine je_sald (pc := 814) d13000_814 hS (lw_ok 2 hL hi (by decide)) ?_
  refine je_aload0 (pc := 815) d13000_815 rfl ?_
  refine je_iload3 (pc := 816) d13000_816 rfl ?_
  refine je_iconst (pc := 817) (v := 3) d13000_817 rfl ?_
  refine je_iadd (pc := 818) d13000_818 ?_
  refine je_sald (pc := 819) d13000_819 hS (lw_ok 3 hL hi (by decide)) ?_
  refine je_aload0 (pc := 820) d13000_820 rfl ?_
  refine je_iload3 (pc := 821) d13000_821 rfl ?_
  refine je_iconst (pc := 822) (v := 4) d13000_822 rfl ?_
  refine je_iadd (pc := 823) d13000_823 ?_
  refine je_sald (pc := 824) d13000_824 hS (lw_ok 4 hL hi (by decide)) ?_
  refine je_callv (pc := 825) (as := [_, _, _, _]) (mc := 13) (ms := 206) d13000_825 jL_13_107 jM_Db_crust rfl (by decide) (hc h hn).1 rfl (by exact Nat.le_of_ble_eq_true rfl) (op _ _ _ _ n h hn512 hn) (fun r1 h1 q1 => ?_)
  obtain ⟨⟨e1, e2, e3⟩, v, rfl, t2⟩ := q1
  refine je_aload2 (pc := 828) d13000_828 rfl ?_
  refine je_aload0 (pc := 829) d13000_829 rfl ?_
  refine je_iload3 (pc := 830) d13000_830 rfl ?_
  refine je_iconst (pc := 831) (v := 1) d13000_831 rfl ?_
  refine je_iadd (pc := 832) d13000_832 ?_
  refine je_sald (pc := 833) d13000_833 (e2.trans hS) (lw_ok 1 hL hi (by decide)) ?_
  refine je_aload0 (pc := 834) d13000_834 rfl ?_
  refine je_iload3 (pc := 835) d13000_835 rfl ?_
  refine je_iconst (pc := 836) (v := 2) d13000_836 rfl ?_
  refine je_iadd (pc := 837) d13000_837 ?_
  refine je_sald (pc := 838) d13000_838 (e2.trans hS) (lw_ok 2 hL hi (by decide)) ?_
  refine je_aload0 (pc := 839) d13000_839 rfl ?_
  refine je_iload3 (pc := 840) d13000_840 rfl ?_
  refine je_iconst (pc := 841) (v := 3) d13000_841 rfl ?_
  refine je_iadd (pc := 842) d13000_842 ?_
  refine je_sald (pc := 843) d13000_843 (e2.trans hS) (lw_ok 3 hL hi (by decide)) ?_
  refine je_aload0 (pc := 844) d13000_844 rfl ?_
  refine je_iload3 (pc := 845) d13000_845 rfl ?_
  refine je_iconst (pc := 846) (v := 4) d13000_846 rfl ?_
  refine je_iadd (pc := 847) d13000_847 ?_
  refine je_sald (pc := 848) d13000_848 (e2.trans hS) (lw_ok 4 hL hi (by decide)) ?_
  rw [e1]
  refine ju_callv (pc := 849) (as := [_, _, _, _]) d13000_849 jL_13_111 jM_Mo_crust rfl (by decide) e3 rfl (by exact Nat.le_of_ble_eq_true rfl) t2 (fun r2 h2 q2 => ?_)
  obtain ⟨rfl, e4, hn2⟩ := q2
  refine je_iceq (pc := 852) 1048 d13000_852 (by decide) (fun _ => ?_) (fun c => absurd rfl c)
  exact kk h2 hn2 (e4.trans (e2.trans hS))
theorem lw_c23 {Inv : Nat → jx_H → Prop} (hc : ∀ {n : Nat} (h : jx_H), Inv n h → h.1[1]? = some (.inr (.inl 0)) ∧ h.1[253]? = some (.inr (.inl 12))) (op : ∀ v1 v2 : Int32, jo Inv 34 12105 [.int v1, .int v2]) {n L bc bs : Nat} {h : jx_H} {Q : Option Value → jx_H → Prop} (hn512 : n < 512) (hn : Inv n h) (hS : h.1[0]? = some (.inl (5, L))) (hL : L ≤ 3072) (hi : 6 * n + 6 ≤ L) (kk : ∀ h2, Inv (n + 1) h2 → h2.1[0]? = some (.inl (5, L)) → jx_Ev 200 bc bs 13000 1048 [some (.ref 0), some (.ref 1), some (.ref 253), some (.int (nI (6 * n)))] [] h2 Q) : jx_Ev 200 (13 + bc) (206 + bs) 13000 857 [some (.ref 0), some (.ref 1), some (.ref 253), some (.int (nI (6 * n)))] [] h Q := by
  refine je_aload1 (pc := 857) d13000_857 rfl ?_
  refine je_aload0 (pc := 858) d13000_858 rfl ?_
  refine je_iload3 (pc := 859) d13000_859 rfl ?_
  refine je_iconst (pc := 860) (v := 1) d13000_860 rfl ?_
  refine je_iadd (pc := 861) d13000_861 ?_
  refine je_sald (pc := 862) d13000_862 hS (lw_ok 1 hL hi (by decide)) ?_
  refine je_aload0 (pc := 863) d13000_863 rfl ?_
  refine je_iload3 (pc := 864) d13000_864 rfl ?_
  refine je_iconst (pc := 865) (v := 2) d13000_865 rfl ?_
  refine je_iadd (pc := 866) d13000_866 ?_
  refine je_sald (pc := 867) d13000_867 hS (lw_ok 2 hL hi (by decide)) ?_
  refine je_callv (pc := 868) (as := [_, _]) (mc := 13) (ms := 206) d13000_868 jL_13_112 jM_Db_peace rfl (by decide) (hc h hn).1 rfl (by exact Nat.le_of_ble_eq_true rfl) (op _ _ n h hn512 hn) (fun r1 h1 q1 => ?_)
  obtain ⟨⟨e1, e2, e3⟩, v, rfl, t2⟩ := q1
  refine je_aload2 (pc := 871) d13000_871 rfl ?_
  refine je_aload0 (pc := 872) d13000_872 rfl ?_
  refine je_iload3 (pc := 873) d13000_873 rfl ?_
  refine je_iconst (pc := 874) (v := 1) d13000_874 rfl ?_
  refine je_iadd (pc := 875) d13000_875 ?_
  refine je_sald (pc := 876) d13000_876 (e2.trans hS) (lw_ok 1 hL hi (by decide)) ?_
  refine je_aload0 (pc := 877) d13000_877 rfl ?_
  refine je_iload3 (pc := 878) d13000_878 rfl ?_
  refine je_iconst (pc := 879) (v := 2) d13000_879 rfl ?_
  refine je_iadd (pc := 880) d13000_880 ?_
  refine je_sald (pc := 881) d13000_881 (e2.trans hS) (lw_ok 2 hL hi (by decide)) ?_
  rw [e1]
  refine ju_callv (pc := 882) (as := [_, _]) d13000_882 jL_13_115 jM_Mo_peace rfl (by decide) e3 rfl (by exact Nat.le_of_ble_eq_true rfl) t2 (fun r2 h2 q2 => ?_)
  obtain ⟨rfl, e4, hn2⟩ := q2
  refine je_iceq (pc := 885) 1048 d13000_885 (by decide) (fun _ => ?_) (fun c => absurd rfl c)
  exact kk h2 hn2 (e4.trans (e2.trans hS))
theorem lw_c24 {Inv : Nat → jx_H → Prop} (hc : ∀ {n : Nat} (h : jx_H), Inv n h → h.1[1]? = some (.inr (.inl 0)) ∧ h.1[253]? = some (.inr (.inl 12))) (op : ∀ v1 : Int32, jo Inv 35 12106 [.int v1]) {n L bc bs : Nat} {h : jx_H} {Q : Option Value → jx_H → Prop} (hn512 : n < 512) (hn : Inv n h) (hS : h.1[0]? = some (.inl (5, L))) (hL : L ≤ 3072) (hi : 6 * n + 6 ≤ L) (kk : ∀ h2, Inv (n + 1) h2 → h2.1[0]? = some (.inl (5, L)) → jx_Ev 200 bc bs 13000 1048 [some (.ref 0), some (.ref 1), some (.ref 253), some (.int (nI (6 * n)))] [] h2 Q) : jx_Ev 200 (13 + bc) (206 + bs) 13000 890 [some (.ref 0), some (.ref 1), some (.ref 253), some (.int (nI (6 * n)))] [] h Q := by
  refine je_aload1 (pc := 890) d13000_890 rfl ?_
  refine je_aload0 (pc := 891) d13000_891 rfl ?_
  refine je_iload3 (pc := 892) d13000_892 rfl ?_
  refine je_iconst (pc := 893) (v := 1) d13000_893 rfl ?_
  refine je_iadd (pc := 894) d13000_894 ?_
  refine je_sald (pc := 895) d13000_895 hS (lw_ok 1 hL hi (by decide)) ?_
  refine je_callv (pc := 896) (as := [_]) (mc := 13) (ms := 206) d13000_896 jL_13_116 jM_Db_part rfl (by decide) (hc h hn).1 rfl (by exact Nat.le_of_ble_eq_true rfl) (op _ n h hn512 hn) (fun r1 h1 q1 => ?_)
  obtain ⟨⟨e1, e2, e3⟩, v, rfl, t2⟩ := q1
  refine je_aload2 (pc := 899) d13000_899 rfl ?_
  refine je_aload0 (pc := 900) d13000_900 rfl ?_
  refine je_iload3 (pc := 901) d13000_901 rfl ?_
  refine je_iconst (pc := 902) (v := 1) d13000_902 rfl ?_
  refine je_iadd (pc := 903) d13000_903 ?_
  refine je_sald (pc := 904) d13000_904 (e2.trans hS) (lw_ok 1 hL hi (by decide)) ?_
  rw [e1]
  refine ju_callv (pc := 905) (as := [_]) d13000_905 jL_13_119 jM_Mo_part rfl (by decide) e3 rfl (by exact Nat.le_of_ble_eq_true rfl) t2 (fun r2 h2 q2 => ?_)
  obtain ⟨rfl, e4, hn2⟩ := q2
  refine je_iceq (pc := 908) 1048 d13000_908 (by decide) (fun _ => ?_) (fun c => absurd rfl c)
  exact kk h2 hn2 (e4.trans (e2.trans hS))
theorem lw_c25 {Inv : Nat → jx_H → Prop} (hc : ∀ {n : Nat} (h : jx_H), Inv n h → h.1[1]? = some (.inr (.inl 0)) ∧ h.1[253]? = some (.inr (.inl 12))) (op : ∀ v1 : Int32, jo Inv 37 12107 [.int v1]) {n L bc bs : Nat} {h : jx_H} {Q : Option Value → jx_H → Prop} (hn512 : n < 512) (hn : Inv n h) (hS : h.1[0]? = some (.inl (5, L))) (hL : L ≤ 3072) (hi : 6 * n + 6 ≤ L) (kk : ∀ h2, Inv (n + 1) h2 → h2.1[0]? = some (.inl (5, L)) → jx_Ev 200 bc bs 13000 1048 [some (.ref 0), some (.ref 1), some (.ref 253), some (.int (nI (6 * n)))] [] h2 Q) : jx_Ev 200 (13 + bc) (206 + bs) 13000 913 [some (.ref 0), some (.ref 1), some (.ref 253), some (.int (nI (6 * n)))] [] h Q := by
  refine je_aload1 (pc := 913) d13000_913 rfl ?_
  refine je_aload0 (pc := 914) d13000_914 rfl ?_
  refine je_iload3 (pc := 915) d13000_915 rfl ?_
  refine je_iconst (pc := 916) (v := 1) d13000_916 rfl ?_
  refine je_iadd (pc := 917) d13000_917 ?_
  refine je_sald (pc := 918) d13000_918 hS (lw_ok 1 hL hi (by decide)) ?_
  refine je_callv (pc := 919) (as := [_]) (mc := 13) (ms := 206) d13000_919 jL_13_120 jM_Db_seed rfl (by decide) (hc h hn).1 rfl (by exact Nat.le_of_ble_eq_true rfl) (op _ n h hn512 hn) (fun r1 h1 q1 => ?_)
  obtain ⟨⟨e1, e2, e3⟩, v, rfl, t2⟩ := q1
  refine je_aload2 (pc := 922) d13000_922 rfl ?_
  refine je_aload0 (pc := 923) d13000_923 rfl ?_
  refine je_iload3 (pc := 924) d13000_924 rfl ?_
  refine je_iconst (pc := 925) (v := 1) d13000_925 rfl ?_
  refine je_iadd (pc := 926) d13000_926 ?_
  refine je_sald (pc := 927) d13000_927 (e2.trans hS) (lw_ok 1 hL hi (by decide)) ?_
  rw [e1]
  refine ju_callv (pc := 928) (as := [_]) d13000_928 jL_13_123 jM_Mo_seed rfl (by decide) e3 rfl (by exact Nat.le_of_ble_eq_true rfl) t2 (fun r2 h2 q2 => ?_)
  obtain ⟨rfl, e4, hn2⟩ := q2
  refine je_iceq (pc := 931) 1048 d13000_931 (by decide) (fun _ => ?_) (fun c => absurd rfl c)
  exact kk h2 hn2 (e4.trans (e2.trans hS))
theorem lw_c26 {Inv : Nat → jx_H → Prop} (hc : ∀ {n : Nat} (h : jx_H), Inv n h → h.1[1]? = some (.inr (.inl 0)) ∧ h.1[253]? = some (.inr (.inl 12))) (op : ∀ v1 v2 v3 : Int32, jo Inv 38 12108 [.int v1, .int v2, .int v3]) {n L bc bs : Nat} {h : jx_H} {Q : Option Value → jx_H → Prop} (hn512 : n < 512) (hn : Inv n h) (hS : h.1[0]? = some (.inl (5, L))) (hL : L ≤ 3072) (hi : 6 * n + 6 ≤ L) (kk : ∀ h2, Inv (n + 1) h2 → h2.1[0]? = some (.inl (5, L)) → jx_Ev 200 bc bs 13000 1048 [some (.ref 0), some (.ref 1), some (.ref 253), some (.int (nI (6 * n)))] [] h2 Q) : jx_Ev 200 (13 + bc) (206 + bs) 13000 936 [some (.ref 0), some (.ref 1), some (.ref 253), some (.int (nI (6 * n)))] [] h Q := by
  refine je_aload1 (pc := 936) d13000_936 rfl ?_
  refine je_aload0 (pc := 937) d13000_937 rfl ?_
  refine je_iload3 (pc := 938) d13000_938 rfl ?_
  refine je_iconst (pc := 939) (v := 1) d13000_939 rfl ?_
  refine je_iadd (pc := 940) d13000_940 ?_
  refine je_sald (pc := 941) d13000_941 hS (lw_ok 1 hL hi (by decide)) ?_
  refine je_aload0 (pc := 942) d13000_942 rfl ?_
  refine je_iload3 (pc := 943) d13000_943 rfl ?_
  refine je_iconst (pc := 944) (v := 2) d13000_944 rfl ?_
  refine je_iadd (pc := 945) d13000_945 ?_
  refine je_sald (pc := 946) d13000_946 hS (lw_ok 2 hL hi (by decide)) ?_
  refine je_aload0 (pc := 947) d13000_947 rfl ?_
  refine je_iload3 (pc := 948) d13000_948 rfl ?_
  refine je_iconst (pc := 949) (v := 3) d13000_949 rfl ?_
  refine je_iadd (pc := 950) d13000_950 ?_
  refine je_sald (pc := 951) d13000_951 hS (lw_ok 3 hL hi (by decide)) ?_
  refine je_callv (pc := 952) (as := [_, _, _]) (mc := 13) (ms := 206) d13000_952 jL_13_124 jM_Db_summers rfl (by decide) (hc h hn).1 rfl (by exact Nat.le_of_ble_eq_true rfl) (op _ _ _ n h hn512 hn) (fun r1 h1 q1 => ?_)
  obtain ⟨⟨e1, e2, e3⟩, v, rfl, t2⟩ := q1
  refine je_aload2 (pc := 955) d13000_955 rfl ?_
  refine je_aload0 (pc := 956) d13000_956 rfl ?_
  refine je_iload3 (pc := 957) d13000_957 rfl ?_
  refine je_iconst (pc := 958) (v := 1) d13000_958 rfl ?_
  refine je_iadd (pc := 959) d13000_959 ?_
  refine je_sald (pc := 960) d13000_960 (e2.trans hS) (lw_ok 1 hL hi (by decide)) ?_
  refine je_aload0 (pc := 961) d13000_961 rfl ?_
  refine je_iload3 (pc := 962) d13000_962 rfl ?_
  refine je_iconst (pc := 963) (v := 2) d13000_963 rfl ?_
  refine je_iadd (pc := 964) d13000_964 ?_
  refine je_sald (pc := 965) d13000_965 (e2.trans hS) (lw_ok 2 hL hi (by decide)) ?_
  refine je_aload0 (pc := 966) d13000_966 rfl ?_
  refine je_iload3 (pc := 967) d13000_967 rfl ?_
  refine je_iconst (pc := 968) (v := 3) d13000_968 rfl ?_
  refine je_iadd (pc := 969) d13000_969 ?_
  refine je_sald (pc := 970) d13000_970 (e2.trans hS) (lw_ok 3 hL hi (by decide)) ?_
  rw [e1]
  refine ju_callv (pc := 971) (as := [_, _, _]) d13000_971 jL_13_127 jM_Mo_summers rfl (by decide) e3 rfl (by exact Nat.le_of_ble_eq_true rfl) t2 (fun r2 h2 q2 => ?_)
  obtain ⟨rfl, e4, hn2⟩ := q2
  refine je_iceq (pc := 974) 1048 d13000_974 (by decide) (fun _ => ?_) (fun c => absurd rfl c)
  exact kk h2 hn2 (e4.trans (e2.trans hS))
theorem lw_c27 {Inv : Nat → jx_H → Prop} (hc : ∀ {n : Nat} (h : jx_H), Inv n h → h.1[1]? = some (.inr (.inl 0)) ∧ h.1[253]? = some (.inr (.inl 12))) (op : ∀ v1 : Int32, jo Inv 39 12110 [.int v1]) {n L bc bs : Nat} {h : jx_H} {Q : Option Value → jx_H → Prop} (hn512 : n < 512) (hn : Inv n h) (hS : h.1[0]? = some (.inl (5, L))) (hL : L ≤ 3072) (hi : 6 * n + 6 ≤ L) (kk : ∀ h2, Inv (n + 1) h2 → h2.1[0]? = some (.inl (5, L)) → jx_Ev 200 bc bs 13000 1048 [some (.ref 0), some (.ref 1), some (.ref 253), some (.int (nI (6 * n)))] [] h2 Q) : jx_Ev 200 (13 + bc) (206 + bs) 13000 979 [some (.ref 0), some (.ref 1), some (.ref 253), some (.int (nI (6 * n)))] [] h Q := by
  refine je_aload1 (pc := 979) d13000_979 rfl ?_
  refine je_aload0 (pc := 980) d13000_980 rfl ?_
  refine je_iload3 (pc := 981) d13000_981 rfl ?_
  refine je_iconst (pc := 982) (v := 1) d13000_982 rfl ?_
  refine je_iadd (pc := 983) d13000_983 ?_
  refine je_sald (pc := 984) d13000_984 hS (lw_ok 1 hL hi (by decide)) ?_
  refine je_callv (pc := 985) (as := [_]) (mc := 13) (ms := 206) d13000_985 jL_13_128 jM_Db_count rfl (by decide) (hc h hn).1 rfl (by exact Nat.le_of_ble_eq_true rfl) (op _ n h hn512 hn) (fun r1 h1 q1 => ?_)
  obtain ⟨⟨e1, e2, e3⟩, v, rfl, t2⟩ := q1
  refine je_aload2 (pc := 988) d13000_988 rfl ?_
  refine je_aload0 (pc := 989) d13000_989 rfl ?_
  refine je_iload3 (pc := 990) d13000_990 rfl ?_
  refine je_iconst (pc := 991) (v := 1) d13000_991 rfl ?_
  refine je_iadd (pc := 992) d13000_992 ?_
  refine je_sald (pc := 993) d13000_993 (e2.trans hS) (lw_ok 1 hL hi (by decide)) ?_
  rw [e1]
  refine ju_callv (pc := 994) (as := [_]) d13000_994 jL_13_131 jM_Mo_count rfl (by decide) e3 rfl (by exact Nat.le_of_ble_eq_true rfl) t2 (fun r2 h2 q2 => ?_)
  obtain ⟨rfl, e4, hn2⟩ := q2
  refine je_iceq (pc := 997) 1048 d13000_997 (by decide) (fun _ => ?_) (fun c => absurd rfl c)
  exact kk h2 hn2 (e4.trans (e2.trans hS))
theorem lw_c28 {Inv : Nat → jx_H → Prop} (hc : ∀ {n : Nat} (h : jx_H), Inv n h → h.1[1]? = some (.inr (.inl 0)) ∧ h.1[253]? = some (.inr (.inl 12))) (op : ∀ v1 : Int32, jo Inv 40 12112 [.int v1]) {n L bc bs : Nat} {h : jx_H} {Q : Option Value → jx_H → Prop} (hn512 : n < 512) (hn : Inv n h) (hS : h.1[0]? = some (.inl (5, L))) (hL : L ≤ 3072) (hi : 6 * n + 6 ≤ L) (kk : ∀ h2, Inv (n + 1) h2 → h2.1[0]? = some (.inl (5, L)) → jx_Ev 200 bc bs 13000 1048 [some (.ref 0), some (.ref 1), some (.ref 253), some (.int (nI (6 * n)))] [] h2 Q) : jx_Ev 200 (13 + bc) (206 + bs) 13000 1002 [some (.ref 0), some (.ref 1), some (.ref 253), some (.int (nI (6 * n)))] [] h Q := by
  refine je_aload1 (pc := 1002) d13000_1002 rfl ?_
  refine je_aload0 (pc := 1003) d13000_1003 rfl ?_
  refine je_iload3 (pc := 1004) d13000_1004 rfl ?_
  refine je_iconst (pc := 1005) (v := 1) d13000_1005 rfl ?_
  refine je_iadd (pc := 1006) d13000_1006 ?_
  refine je_sald (pc := 1007) d13000_1007 hS (lw_ok 1 hL hi (by decide)) ?_
  refine je_callv (pc := 1008) (as := [_]) (mc := 13) (ms := 206) d13000_1008 jL_13_132 jM_Db_image rfl (by decide) (hc h hn).1 rfl (by exact Nat.le_of_ble_eq_true rfl) (op _ n h hn512 hn) (fun r1 h1 q1 => ?_)
  obtain ⟨⟨e1, e2, e3⟩, v, rfl, t2⟩ := q1
  refine je_aload2 (pc := 1011) d13000_1011 rfl ?_
  refine je_aload0 (pc := 1012) d13000_1012 rfl ?_
  refine je_iload3 (pc := 1013) d13000_1013 rfl ?_
  refine je_iconst (pc := 1014) (v := 1) d13000_1014 rfl ?_
  refine je_iadd (pc := 1015) d13000_1015 ?_
  refine je_sald (pc := 1016) d13000_1016 (e2.trans hS) (lw_ok 1 hL hi (by decide)) ?_
  rw [e1]
  refine ju_callv (pc := 1017) (as := [_]) d13000_1017 jL_13_135 jM_Mo_image rfl (by decide) e3 rfl (by exact Nat.le_of_ble_eq_true rfl) t2 (fun r2 h2 q2 => ?_)
  obtain ⟨rfl, e4, hn2⟩ := q2
  refine je_iceq (pc := 1020) 1048 d13000_1020 (by decide) (fun _ => ?_) (fun c => absurd rfl c)
  exact kk h2 hn2 (e4.trans (e2.trans hS))
theorem lw_c29 {Inv : Nat → jx_H → Prop} (hc : ∀ {n : Nat} (h : jx_H), Inv n h → h.1[1]? = some (.inr (.inl 0)) ∧ h.1[253]? = some (.inr (.inl 12))) (op : ∀ v1 : Int32, jo Inv 41 12113 [.int v1]) {n L bc bs : Nat} {h : jx_H} {Q : Option Value → jx_H → Prop} (hn512 : n < 512) (hn : Inv n h) (hS : h.1[0]? = some (.inl (5, L))) (hL : L ≤ 3072) (hi : 6 * n + 6 ≤ L) (kk : ∀ h2, Inv (n + 1) h2 → h2.1[0]? = some (.inl (5, L)) → jx_Ev 200 bc bs 13000 1048 [some (.ref 0), some (.ref 1), some (.ref 253), some (.int (nI (6 * n)))] [] h2 Q) : jx_Ev 200 (13 + bc) (206 + bs) 13000 1025 [some (.ref 0), some (.ref 1), some (.ref 253), some (.int (nI (6 * n)))] [] h Q := by
  refine je_aload1 (pc := 1025) d13000_1025 rfl ?_
  refine je_aload0 (pc := 1026) d13000_1026 rfl ?_
  refine je_iload3 (pc := 1027) d13000_1027 rfl ?_
  refine je_iconst (pc := 1028) (v := 1) d13000_1028 rfl ?_
  refine je_iadd (pc := 1029) d13000_1029 ?_
  refine je_sald (pc := 1030) d13000_1030 hS (lw_ok 1 hL hi (by decide)) ?_
  refine je_callv (pc := 1031) (as := [_]) (mc := 13) (ms := 206) d13000_1031 jL_13_136 jM_Db_back rfl (by decide) (hc h hn).1 rfl (by exact Nat.le_of_ble_eq_true rfl) (op _ n h hn512 hn) (fun r1 h1 q1 => ?_)
  obtain ⟨⟨e1, e2, e3⟩, v, rfl, t2⟩ := q1
  refine je_aload2 (pc := 1034) d13000_1034 rfl ?_
  refine je_aload0 (pc := 1035) d13000_1035 rfl ?_
  refine je_iload3 (pc := 1036) d13000_1036 rfl ?_
  refine je_iconst (pc := 1037) (v := 1) d13000_1037 rfl ?_
  refine je_iadd (pc := 1038) d13000_1038 ?_
  refine je_sald (pc := 1039) d13000_1039 (e2.trans hS) (lw_ok 1 hL hi (by decide)) ?_
  rw [e1]
  refine ju_callv (pc := 1040) (as := [_]) d13000_1040 jL_13_139 jM_Mo_back rfl (by decide) e3 rfl (by exact Nat.le_of_ble_eq_true rfl) t2 (fun r2 h2 q2 => ?_)
  obtain ⟨rfl, e4, hn2⟩ := q2
  refine je_iceq (pc := 1043) 1048 d13000_1043 (by decide) (fun _ => ?_) (fun c => absurd rfl c)
  exact kk h2 hn2 (e4.trans (e2.trans hS))
theorem lw_loop {Inv : Nat → jx_H → Prop} (hc : ∀ {n : Nat} (h : jx_H), Inv n h → h.1[1]? = some (.inr (.inl 0)) ∧ h.1[253]? = some (.inr (.inl 12))) (hw : ∀ n h, Inv n h → Inv (n + 1) h) (op0 : ∀ v1 v2 v3 v4 v5 : Int32, jo Inv 1 12001 [.int v1, .int v2, .int v3, .int v4, .int v5]) (op1 : ∀ v1 : Int32, jo Inv 2 12003 [.int v1]) (op2 : jo Inv 3 12004 []) (op3 : jo Inv 5 12025 []) (op4 : ∀ v1 : Int32, jo Inv 6 12040 [.int v1]) (op5 : ∀ v1 v2 : Int32, jo Inv 7 12041 [.int v1, .int v2]) (op6 : ∀ v1 v2 : Int32, jo Inv 9 12045 [.int v1, .int v2]) (op7 : ∀ v1 : Int32, jo Inv 11 12048 [.int v1]) (op8 : jo Inv 13 12055 []) (op9 : ∀ v1 v2 : Int32, jo Inv 18 12070 [.int v1, .int v2]) (op10 : ∀ v1 : Int32, jo Inv 20 12073 [.int v1]) (op11 : ∀ v1 : Int32, jo Inv 21 12074 [.int v1]) (op12 : ∀ v1 v2 : Int32, jo Inv 22 12075 [.int v1, .int v2]) (op13 : ∀ v1 : Int32, jo Inv 23 12076 [.int v1]) (op14 : jo Inv 24 12051 []) (op15 : ∀ v1 v2 v3 : Int32, jo Inv 25 12077 [.int v1, .int v2, .int v3]) (op16 : ∀ v1 : Int32, jo Inv 26 12084 [.int v1]) (op17 : ∀ v1 v2 : Int32, jo Inv 27 12085 [.int v1, .int v2]) (op18 : ∀ v1 v2 : Int32, jo Inv 28 12089 [.int v1, .int v2]) (op19 : ∀ v1 v2 v3 : Int32, jo Inv 29 12098 [.int v1, .int v2, .int v3]) (op20 : ∀ v1 v2 : Int32, jo Inv 30 12099 [.int v1, .int v2]) (op21 : ∀ v1 v2 v3 : Int32, jo Inv 32 12102 [.int v1, .int v2, .int v3]) (op22 : ∀ v1 v2 v3 v4 : Int32, jo Inv 33 12103 [.int v1, .int v2, .int v3, .int v4]) (op23 : ∀ v1 v2 : Int32, jo Inv 34 12105 [.int v1, .int v2]) (op24 : ∀ v1 : Int32, jo Inv 35 12106 [.int v1]) (op25 : ∀ v1 : Int32, jo Inv 37 12107 [.int v1]) (op26 : ∀ v1 v2 v3 : Int32, jo Inv 38 12108 [.int v1, .int v2, .int v3]) (op27 : ∀ v1 : Int32, jo Inv 39 12110 [.int v1]) (op28 : ∀ v1 : Int32, jo Inv 40 12112 [.int v1]) (op29 : ∀ v1 : Int32, jo Inv 41 12113 [.int v1]) {L : Nat} (hL : L ≤ 3072) : ∀ (t n : Nat) (h : jx_H), n + t = 513 → Inv n h → h.1[0]? = some (.inl (5, L)) → jx_Ev 200 (13 * t) (206 * t) 13000 18 [some (.ref 0), some (.ref 1), some (.ref 253), some (.int (nI (6 * n)))] [] h (fun r _ => r = some (.int 1)) := by
  intro t
  induction t with
  | zero =>
    intro n h hnt hn hS
    refine je_iload3 (pc := 18) d13000_18 rfl ?_
    refine je_aload0 (pc := 19) d13000_19 rfl ?_
    refine je_slen (pc := 20) d13000_20 hS ?_
    refine je_bipush (pc := 21) (v := 6) d13000_21 rfl ?_
    refine je_isub (pc := 23) d13000_23 ?_
    refine je_icgt 1054 (pc := 24) d13000_24 (by decide) (fun _ => ?_) (fun c => ?_)
    · refine je_iconst (pc := 1054) (v := 1) d13000_1054 rfl ?_
      exact je_zret (pc := 1055) d13000_1055 rfl (by decide) rfl
    · have := lw_lt hL (by omega) c
      omega
  | succ t ih =>
    intro n h hnt hn hS
    refine je_iload3 (pc := 18) d13000_18 rfl ?_
    refine je_aload0 (pc := 19) d13000_19 rfl ?_
    refine je_slen (pc := 20) d13000_20 hS ?_
    refine je_bipush (pc := 21) (v := 6) d13000_21 rfl ?_
    refine je_isub (pc := 23) d13000_23 ?_
    refine je_icgt 1054 (pc := 24) d13000_24 (by decide) (fun _ => ?_) (fun c => ?_)
    · refine je_iconst (pc := 1054) (v := 1) d13000_1054 rfl ?_
      exact je_zret (pc := 1055) d13000_1055 rfl (by decide) rfl
    · have hi := lw_lt hL (by omega) c
      have hn512 : n < 512 := by omega
      have kk : ∀ h2, Inv (n + 1) h2 → h2.1[0]? = some (.inl (5, L)) → jx_Ev 200 (13 * t) (206 * t) 13000 1048 [some (.ref 0), some (.ref 1), some (.ref 253), some (.int (nI (6 * n)))] [] h2 (fun r _ => r = some (.int 1)) := by
        intro h2 hn2 hS2
        refine ju_incN (pc := 1048) (v := nI (6 * (n + 1))) (lv' := [some _, some _, some _, some (.int (nI (6 * (n + 1))))]) d13000_1048 rfl (by show nI (6 * n) + nI 6 = _; rw [nI_add]; rfl) rfl ?_
        refine je_goto 18 (pc := 1051) d13000_1051 (by decide) ?_
        exact ih (n + 1) h2 (by omega) hn2 hS2
      refine je_aload0 (pc := 27) d13000_27 rfl ?_
      refine je_iload3 (pc := 28) d13000_28 rfl ?_
      refine je_sald (pc := 29) d13000_29 hS (lw_ok0 hL hi) ?_
      refine je_bipush (pc := 30) (v := 31) d13000_30 rfl ?_
      refine je_iand (pc := 32) d13000_32 ?_
      refine ju_topi (fun x _ => ?_)
      refine ju_bud (bc' := 13 + 13 * t) (bs' := 206 + 206 * t) (by omega) (by omega) ?_
      by_cases s0 : x = 0
      · refine je_table 168 (pc := 33) d13000_33 (by rw [s0]; decide) (by rw [s0]; decide) (off := 135) (by rw [s0]; rfl) (by decide) ?_
        exact lw_c0 hc op0 hn512 hn hS hL hi kk
      by_cases s1 : x = 1
      · refine je_table 231 (pc := 33) d13000_33 (by rw [s1]; decide) (by rw [s1]; decide) (off := 198) (by rw [s1]; rfl) (by decide) ?_
        exact lw_c1 hc op1 hn512 hn hS hL hi kk
      by_cases s2 : x = 2
      · refine je_table 254 (pc := 33) d13000_33 (by rw [s2]; decide) (by rw [s2]; decide) (off := 221) (by rw [s2]; rfl) (by decide) ?_
        exact lw_c2 hc op2 hn512 hn hS hL hi kk
      by_cases s3 : x = 3
      · refine je_table 267 (pc := 33) d13000_33 (by rw [s3]; decide) (by rw [s3]; decide) (off := 234) (by rw [s3]; rfl) (by decide) ?_
        exact lw_c3 hc op3 hn512 hn hS hL hi kk
      by_cases s4 : x = 4
      · refine je_table 280 (pc := 33) d13000_33 (by rw [s4]; decide) (by rw [s4]; decide) (off := 247) (by rw [s4]; rfl) (by decide) ?_
        exact lw_c4 hc op4 hn512 hn hS hL hi kk
      by_cases s5 : x = 5
      · refine je_table 303 (pc := 33) d13000_33 (by rw [s5]; decide) (by rw [s5]; decide) (off := 270) (by rw [s5]; rfl) (by decide) ?_
        exact lw_c5 hc op5 hn512 hn hS hL hi kk
      by_cases s6 : x = 6
      · refine je_table 336 (pc := 33) d13000_33 (by rw [s6]; decide) (by rw [s6]; decide) (off := 303) (by rw [s6]; rfl) (by decide) ?_
        exact lw_c6 hc op6 hn512 hn hS hL hi kk
      by_cases s7 : x = 7
      · refine je_table 369 (pc := 33) d13000_33 (by rw [s7]; decide) (by rw [s7]; decide) (off := 336) (by rw [s7]; rfl) (by decide) ?_
        exact lw_c7 hc op7 hn512 hn hS hL hi kk
      by_cases s8 : x = 8
      · refine je_table 392 (pc := 33) d13000_33 (by rw [s8]; decide) (by rw [s8]; decide) (off := 359) (by rw [s8]; rfl) (by decide) ?_
        exact lw_c8 hc op8 hn512 hn hS hL hi kk
      by_cases s9 : x = 9
      · refine je_table 405 (pc := 33) d13000_33 (by rw [s9]; decide) (by rw [s9]; decide) (off := 372) (by rw [s9]; rfl) (by decide) ?_
        exact lw_c9 hc op9 hn512 hn hS hL hi kk
      by_cases s10 : x = 10
      · refine je_table 438 (pc := 33) d13000_33 (by rw [s10]; decide) (by rw [s10]; decide) (off := 405) (by rw [s10]; rfl) (by decide) ?_
        exact lw_c10 hc op10 hn512 hn hS hL hi kk
      by_cases s11 : x = 11
      · refine je_table 461 (pc := 33) d13000_33 (by rw [s11]; decide) (by rw [s11]; decide) (off := 428) (by rw [s11]; rfl) (by decide) ?_
        exact lw_c11 hc op11 hn512 hn hS hL hi kk
      by_cases s12 : x = 12
      · refine je_table 484 (pc := 33) d13000_33 (by rw [s12]; decide) (by rw [s12]; decide) (off := 451) (by rw [s12]; rfl) (by decide) ?_
        exact lw_c12 hc op12 hn512 hn hS hL hi kk
      by_cases s13 : x = 13
      · refine je_table 517 (pc := 33) d13000_33 (by rw [s13]; decide) (by rw [s13]; decide) (off := 484) (by rw [s13]; rfl) (by decide) ?_
        exact lw_c13 hc op13 hn512 hn hS hL hi kk
      by_cases s14 : x = 14
      · refine je_table 540 (pc := 33) d13000_33 (by rw [s14]; decide) (by rw [s14]; decide) (off := 507) (by rw [s14]; rfl) (by decide) ?_
        exact lw_c14 hc op14 hn512 hn hS hL hi kk
      by_cases s15 : x = 15
      · refine je_table 553 (pc := 33) d13000_33 (by rw [s15]; decide) (by rw [s15]; decide) (off := 520) (by rw [s15]; rfl) (by decide) ?_
        exact lw_c15 hc op15 hn512 hn hS hL hi kk
      by_cases s16 : x = 16
      · refine je_table 596 (pc := 33) d13000_33 (by rw [s16]; decide) (by rw [s16]; decide) (off := 563) (by rw [s16]; rfl) (by decide) ?_
        exact lw_c16 hc op16 hn512 hn hS hL hi kk
      by_cases s17 : x = 17
      · refine je_table 619 (pc := 33) d13000_33 (by rw [s17]; decide) (by rw [s17]; decide) (off := 586) (by rw [s17]; rfl) (by decide) ?_
        exact lw_c17 hc op17 hn512 hn hS hL hi kk
      by_cases s18 : x = 18
      · refine je_table 652 (pc := 33) d13000_33 (by rw [s18]; decide) (by rw [s18]; decide) (off := 619) (by rw [s18]; rfl) (by decide) ?_
        exact lw_c18 hc op18 hn512 hn hS hL hi kk
      by_cases s19 : x = 19
      · refine je_table 685 (pc := 33) d13000_33 (by rw [s19]; decide) (by rw [s19]; decide) (off := 652) (by rw [s19]; rfl) (by decide) ?_
        exact lw_c19 hc op19 hn512 hn hS hL hi kk
      by_cases s20 : x = 20
      · refine je_table 728 (pc := 33) d13000_33 (by rw [s20]; decide) (by rw [s20]; decide) (off := 695) (by rw [s20]; rfl) (by decide) ?_
        exact lw_c20 hc op20 hn512 hn hS hL hi kk
      by_cases s21 : x = 21
      · refine je_table 761 (pc := 33) d13000_33 (by rw [s21]; decide) (by rw [s21]; decide) (off := 728) (by rw [s21]; rfl) (by decide) ?_
        exact lw_c21 hc op21 hn512 hn hS hL hi kk
      by_cases s22 : x = 22
      · refine je_table 804 (pc := 33) d13000_33 (by rw [s22]; decide) (by rw [s22]; decide) (off := 771) (by rw [s22]; rfl) (by decide) ?_
        exact lw_c22 hc op22 hn512 hn hS hL hi kk
      by_cases s23 : x = 23
      · refine je_table 857 (pc := 33) d13000_33 (by rw [s23]; decide) (by rw [s23]; decide) (off := 824) (by rw [s23]; rfl) (by decide) ?_
        exact lw_c23 hc op23 hn512 hn hS hL hi kk
      by_cases s24 : x = 24
      · refine je_table 890 (pc := 33) d13000_33 (by rw [s24]; decide) (by rw [s24]; decide) (off := 857) (by rw [s24]; rfl) (by decide) ?_
        exact lw_c24 hc op24 hn512 hn hS hL hi kk
      by_cases s25 : x = 25
      · refine je_table 913 (pc := 33) d13000_33 (by rw [s25]; decide) (by rw [s25]; decide) (off := 880) (by rw [s25]; rfl) (by decide) ?_
        exact lw_c25 hc op25 hn512 hn hS hL hi kk
      by_cases s26 : x = 26
      · refine je_table 936 (pc := 33) d13000_33 (by rw [s26]; decide) (by rw [s26]; decide) (off := 903) (by rw [s26]; rfl) (by decide) ?_
        exact lw_c26 hc op26 hn512 hn hS hL hi kk
      by_cases s27 : x = 27
      · refine je_table 979 (pc := 33) d13000_33 (by rw [s27]; decide) (by rw [s27]; decide) (off := 946) (by rw [s27]; rfl) (by decide) ?_
        exact lw_c27 hc op27 hn512 hn hS hL hi kk
      by_cases s28 : x = 28
      · refine je_table 1002 (pc := 33) d13000_33 (by rw [s28]; decide) (by rw [s28]; decide) (off := 969) (by rw [s28]; rfl) (by decide) ?_
        exact lw_c28 hc op28 hn512 hn hS hL hi kk
      by_cases s29 : x = 29
      · refine je_table 1025 (pc := 33) d13000_33 (by rw [s29]; decide) (by rw [s29]; decide) (off := 992) (by rw [s29]; rfl) (by decide) ?_
        exact lw_c29 hc op29 hn512 hn hS hL hi kk
      have n0 := lv_neT s0 (a := 0) rfl
      have n1 := lv_neT s1 (a := 1) rfl
      have n2 := lv_neT s2 (a := 2) rfl
      have n3 := lv_neT s3 (a := 3) rfl
      have n4 := lv_neT s4 (a := 4) rfl
      have n5 := lv_neT s5 (a := 5) rfl
      have n6 := lv_neT s6 (a := 6) rfl
      have n7 := lv_neT s7 (a := 7) rfl
      have n8 := lv_neT s8 (a := 8) rfl
      have n9 := lv_neT s9 (a := 9) rfl
      have n10 := lv_neT s10 (a := 10) rfl
      have n11 := lv_neT s11 (a := 11) rfl
      have n12 := lv_neT s12 (a := 12) rfl
      have n13 := lv_neT s13 (a := 13) rfl
      have n14 := lv_neT s14 (a := 14) rfl
      have n15 := lv_neT s15 (a := 15) rfl
      have n16 := lv_neT s16 (a := 16) rfl
      have n17 := lv_neT s17 (a := 17) rfl
      have n18 := lv_neT s18 (a := 18) rfl
      have n19 := lv_neT s19 (a := 19) rfl
      have n20 := lv_neT s20 (a := 20) rfl
      have n21 := lv_neT s21 (a := 21) rfl
      have n22 := lv_neT s22 (a := 22) rfl
      have n23 := lv_neT s23 (a := 23) rfl
      have n24 := lv_neT s24 (a := 24) rfl
      have n25 := lv_neT s25 (a := 25) rfl
      have n26 := lv_neT s26 (a := 26) rfl
      have n27 := lv_neT s27 (a := 27) rfl
      have n28 := lv_neT s28 (a := 28) rfl
      have n29 := lv_neT s29 (a := 29) rfl
      refine je_tableO 1048 (pc := 33) d13000_33 (by omega) (by decide) ?_
      exact (kk h (hw n h hn) hS).more (by omega) (by omega)
