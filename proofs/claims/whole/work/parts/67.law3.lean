
/-! ===== what stands when the law begins ===== -/
def fl1 : List Cond := flatC (Jvm.Cond.and given_1 narrow_1)
def tmS (i : Nat) : Term := .string RX4 (sk_idx.getD i 0)
theorem fl_ex : ∀ i, i < 16 → Cond.exactly (tmS i) "java/lang/String" ∈ fl1 := by decide +kernel
theorem fl_co : ∀ i, i < 16 → Cond.eq (.field (tmS i) "java/lang/String" "coder" "B") (.int 0) ∈ fl1 := by decide +kernel
theorem fl_ar : ∀ i, i < 16 → Cond.arrayOf (.field (tmS i) "java/lang/String" "value" "[B") .byte ∈ fl1 := by decide +kernel
theorem fl_le : ∀ i, i < 16 → Cond.eq (.length (.field (tmS i) "java/lang/String" "value" "[B")) (.int (Int32.ofNat (sk_len.getD i 0))) ∈ fl1 := by decide +kernel
theorem fl_el : ∀ i, i < 16 → ∀ j, j < sk_len.getD i 0 → Cond.eq (.elem (.field (tmS i) "java/lang/String" "value" "[B") (.int (Int32.ofNat j))) (.int ((sk_byt.getD i []).getD j 0)) ∈ fl1 := by decide +kernel
theorem ne_0_1 : Cond.not (Cond.eq (tmS 0) (tmS 1)) ∈ fl1 := List.mem_of_getElem? (i := 89) (by decide +kernel)
theorem ne_0_2 : Cond.not (Cond.eq (tmS 0) (tmS 2)) ∈ fl1 := List.mem_of_getElem? (i := 100) (by decide +kernel)
theorem ne_0_3 : Cond.not (Cond.eq (tmS 0) (tmS 3)) ∈ fl1 := List.mem_of_getElem? (i := 113) (by decide +kernel)
theorem ne_0_4 : Cond.not (Cond.eq (tmS 0) (tmS 4)) ∈ fl1 := List.mem_of_getElem? (i := 127) (by decide +kernel)
theorem ne_0_5 : Cond.not (Cond.eq (tmS 0) (tmS 5)) ∈ fl1 := List.mem_of_getElem? (i := 140) (by decide +kernel)
theorem ne_0_6 : Cond.not (Cond.eq (tmS 0) (tmS 6)) ∈ fl1 := List.mem_of_getElem? (i := 179) (by decide +kernel)
theorem ne_0_7 : Cond.not (Cond.eq (tmS 0) (tmS 7)) ∈ fl1 := List.mem_of_getElem? (i := 196) (by decide +kernel)
theorem ne_0_8 : Cond.not (Cond.eq (tmS 0) (tmS 8)) ∈ fl1 := List.mem_of_getElem? (i := 214) (by decide +kernel)
theorem ne_0_9 : Cond.not (Cond.eq (tmS 0) (tmS 9)) ∈ fl1 := List.mem_of_getElem? (i := 235) (by decide +kernel)
theorem ne_0_10 : Cond.not (Cond.eq (tmS 0) (tmS 10)) ∈ fl1 := List.mem_of_getElem? (i := 256) (by decide +kernel)
theorem ne_0_11 : Cond.not (Cond.eq (tmS 0) (tmS 11)) ∈ fl1 := List.mem_of_getElem? (i := 296) (by decide +kernel)
theorem ne_0_12 : Cond.not (Cond.eq (tmS 0) (tmS 12)) ∈ fl1 := List.mem_of_getElem? (i := 317) (by decide +kernel)
theorem ne_0_13 : Cond.not (Cond.eq (tmS 0) (tmS 13)) ∈ fl1 := List.mem_of_getElem? (i := 151) (by decide +kernel)
theorem ne_0_14 : Cond.not (Cond.eq (tmS 0) (tmS 14)) ∈ fl1 := List.mem_of_getElem? (i := 165) (by decide +kernel)
theorem ne_0_15 : Cond.not (Cond.eq (tmS 0) (tmS 15)) ∈ fl1 := List.mem_of_getElem? (i := 274) (by decide +kernel)
theorem ne_1_2 : Cond.not (Cond.eq (tmS 1) (tmS 2)) ∈ fl1 := List.mem_of_getElem? (i := 101) (by decide +kernel)
theorem ne_1_3 : Cond.not (Cond.eq (tmS 1) (tmS 3)) ∈ fl1 := List.mem_of_getElem? (i := 114) (by decide +kernel)
theorem ne_1_4 : Cond.not (Cond.eq (tmS 1) (tmS 4)) ∈ fl1 := List.mem_of_getElem? (i := 128) (by decide +kernel)
theorem ne_1_5 : Cond.not (Cond.eq (tmS 1) (tmS 5)) ∈ fl1 := List.mem_of_getElem? (i := 141) (by decide +kernel)
theorem ne_1_6 : Cond.not (Cond.eq (tmS 1) (tmS 6)) ∈ fl1 := List.mem_of_getElem? (i := 180) (by decide +kernel)
theorem ne_1_7 : Cond.not (Cond.eq (tmS 1) (tmS 7)) ∈ fl1 := List.mem_of_getElem? (i := 197) (by decide +kernel)
theorem ne_1_8 : Cond.not (Cond.eq (tmS 1) (tmS 8)) ∈ fl1 := List.mem_of_getElem? (i := 215) (by decide +kernel)
theorem ne_1_9 : Cond.not (Cond.eq (tmS 1) (tmS 9)) ∈ fl1 := List.mem_of_getElem? (i := 236) (by decide +kernel)
theorem ne_1_10 : Cond.not (Cond.eq (tmS 1) (tmS 10)) ∈ fl1 := List.mem_of_getElem? (i := 257) (by decide +kernel)
theorem ne_1_11 : Cond.not (Cond.eq (tmS 1) (tmS 11)) ∈ fl1 := List.mem_of_getElem? (i := 297) (by decide +kernel)
theorem ne_1_12 : Cond.not (Cond.eq (tmS 1) (tmS 12)) ∈ fl1 := List.mem_of_getElem? (i := 318) (by decide +kernel)
theorem ne_1_13 : Cond.not (Cond.eq (tmS 1) (tmS 13)) ∈ fl1 := List.mem_of_getElem? (i := 152) (by decide +kernel)
theorem ne_1_14 : Cond.not (Cond.eq (tmS 1) (tmS 14)) ∈ fl1 := List.mem_of_getElem? (i := 166) (by decide +kernel)
theorem ne_1_15 : Cond.not (Cond.eq (tmS 1) (tmS 15)) ∈ fl1 := List.mem_of_getElem? (i := 275) (by decide +kernel)
theorem ne_2_3 : Cond.not (Cond.eq (tmS 2) (tmS 3)) ∈ fl1 := List.mem_of_getElem? (i := 115) (by decide +kernel)
theorem ne_2_4 : Cond.not (Cond.eq (tmS 2) (tmS 4)) ∈ fl1 := List.mem_of_getElem? (i := 129) (by decide +kernel)
theorem ne_2_5 : Cond.not (Cond.eq (tmS 2) (tmS 5)) ∈ fl1 := List.mem_of_getElem? (i := 142) (by decide +kernel)
theorem ne_2_6 : Cond.not (Cond.eq (tmS 2) (tmS 6)) ∈ fl1 := List.mem_of_getElem? (i := 181) (by decide +kernel)
theorem ne_2_7 : Cond.not (Cond.eq (tmS 2) (tmS 7)) ∈ fl1 := List.mem_of_getElem? (i := 198) (by decide +kernel)
theorem ne_2_8 : Cond.not (Cond.eq (tmS 2) (tmS 8)) ∈ fl1 := List.mem_of_getElem? (i := 216) (by decide +kernel)
theorem ne_2_9 : Cond.not (Cond.eq (tmS 2) (tmS 9)) ∈ fl1 := List.mem_of_getElem? (i := 237) (by decide +kernel)
theorem ne_2_10 : Cond.not (Cond.eq (tmS 2) (tmS 10)) ∈ fl1 := List.mem_of_getElem? (i := 258) (by decide +kernel)
theorem ne_2_11 : Cond.not (Cond.eq (tmS 2) (tmS 11)) ∈ fl1 := List.mem_of_getElem? (i := 298) (by decide +kernel)
theorem ne_2_12 : Cond.not (Cond.eq (tmS 2) (tmS 12)) ∈ fl1 := List.mem_of_getElem? (i := 319) (by decide +kernel)
theorem ne_2_13 : Cond.not (Cond.eq (tmS 2) (tmS 13)) ∈ fl1 := List.mem_of_getElem? (i := 153) (by decide +kernel)
theorem ne_2_14 : Cond.not (Cond.eq (tmS 2) (tmS 14)) ∈ fl1 := List.mem_of_getElem? (i := 167) (by decide +kernel)
theorem ne_2_15 : Cond.not (Cond.eq (tmS 2) (tmS 15)) ∈ fl1 := List.mem_of_getElem? (i := 276) (by decide +kernel)
theorem ne_3_4 : Cond.not (Cond.eq (tmS 3) (tmS 4)) ∈ fl1 := List.mem_of_getElem? (i := 130) (by decide +kernel)
theorem ne_3_5 : Cond.not (Cond.eq (tmS 3) (tmS 5)) ∈ fl1 := List.mem_of_getElem? (i := 143) (by decide +kernel)
theorem ne_3_6 : Cond.not (Cond.eq (tmS 3) (tmS 6)) ∈ fl1 := List.mem_of_getElem? (i := 182) (by decide +kernel)
theorem ne_3_7 : Cond.not (Cond.eq (tmS 3) (tmS 7)) ∈ fl1 := List.mem_of_getElem? (i := 199) (by decide +kernel)
theorem ne_3_8 : Cond.not (Cond.eq (tmS 3) (tmS 8)) ∈ fl1 := List.mem_of_getElem? (i := 217) (by decide +kernel)
theorem ne_3_9 : Cond.not (Cond.eq (tmS 3) (tmS 9)) ∈ fl1 := List.mem_of_getElem? (i := 238) (by decide +kernel)
theorem ne_3_10 : Cond.not (Cond.eq (tmS 3) (tmS 10)) ∈ fl1 := List.mem_of_getElem? (i := 259) (by decide +kernel)
theorem ne_3_11 : Cond.not (Cond.eq (tmS 3) (tmS 11)) ∈ fl1 := List.mem_of_getElem? (i := 299) (by decide +kernel)
theorem ne_3_12 : Cond.not (Cond.eq (tmS 3) (tmS 12)) ∈ fl1 := List.mem_of_getElem? (i := 320) (by decide +kernel)
theorem ne_3_13 : Cond.not (Cond.eq (tmS 3) (tmS 13)) ∈ fl1 := List.mem_of_getElem? (i := 154) (by decide +kernel)
theorem ne_3_14 : Cond.not (Cond.eq (tmS 3) (tmS 14)) ∈ fl1 := List.mem_of_getElem? (i := 168) (by decide +kernel)
theorem ne_3_15 : Cond.not (Cond.eq (tmS 3) (tmS 15)) ∈ fl1 := List.mem_of_getElem? (i := 277) (by decide +kernel)
theorem ne_4_5 : Cond.not (Cond.eq (tmS 4) (tmS 5)) ∈ fl1 := List.mem_of_getElem? (i := 144) (by decide +kernel)
theorem ne_4_6 : Cond.not (Cond.eq (tmS 4) (tmS 6)) ∈ fl1 := List.mem_of_getElem? (i := 183) (by decide +kernel)
theorem ne_4_7 : Cond.not (Cond.eq (tmS 4) (tmS 7)) ∈ fl1 := List.mem_of_getElem? (i := 200) (by decide +kernel)
theorem ne_4_8 : Cond.not (Cond.eq (tmS 4) (tmS 8)) ∈ fl1 := List.mem_of_getElem? (i := 218) (by decide +kernel)
theorem ne_4_9 : Cond.not (Cond.eq (tmS 4) (tmS 9)) ∈ fl1 := List.mem_of_getElem? (i := 239) (by decide +kernel)
theorem ne_4_10 : Cond.not (Cond.eq (tmS 4) (tmS 10)) ∈ fl1 := List.mem_of_getElem? (i := 260) (by decide +kernel)
theorem ne_4_11 : Cond.not (Cond.eq (tmS 4) (tmS 11)) ∈ fl1 := List.mem_of_getElem? (i := 300) (by decide +kernel)
theorem ne_4_12 : Cond.not (Cond.eq (tmS 4) (tmS 12)) ∈ fl1 := List.mem_of_getElem? (i := 321) (by decide +kernel)
theorem ne_4_13 : Cond.not (Cond.eq (tmS 4) (tmS 13)) ∈ fl1 := List.mem_of_getElem? (i := 155) (by decide +kernel)
theorem ne_4_14 : Cond.not (Cond.eq (tmS 4) (tmS 14)) ∈ fl1 := List.mem_of_getElem? (i := 169) (by decide +kernel)
theorem ne_4_15 : Cond.not (Cond.eq (tmS 4) (tmS 15)) ∈ fl1 := List.mem_of_getElem? (i := 278) (by decide +kernel)
theorem ne_5_6 : Cond.not (Cond.eq (tmS 5) (tmS 6)) ∈ fl1 := List.mem_of_getElem? (i := 184) (by decide +kernel)
theorem ne_5_7 : Cond.not (Cond.eq (tmS 5) (tmS 7)) ∈ fl1 := List.mem_of_getElem? (i := 201) (by decide +kernel)
theorem ne_5_8 : Cond.not (Cond.eq (tmS 5) (tmS 8)) ∈ fl1 := List.mem_of_getElem? (i := 219) (by decide +kernel)
theorem ne_5_9 : Cond.not (Cond.eq (tmS 5) (tmS 9)) ∈ fl1 := List.mem_of_getElem? (i := 240) (by decide +kernel)
theorem ne_5_10 : Cond.not (Cond.eq (tmS 5) (tmS 10)) ∈ fl1 := List.mem_of_getElem? (i := 261) (by decide +kernel)
theorem ne_5_11 : Cond.not (Cond.eq (tmS 5) (tmS 11)) ∈ fl1 := List.mem_of_getElem? (i := 301) (by decide +kernel)
theorem ne_5_12 : Cond.not (Cond.eq (tmS 5) (tmS 12)) ∈ fl1 := List.mem_of_getElem? (i := 322) (by decide +kernel)
theorem ne_5_13 : Cond.not (Cond.eq (tmS 5) (tmS 13)) ∈ fl1 := List.mem_of_getElem? (i := 156) (by decide +kernel)
theorem ne_5_14 : Cond.not (Cond.eq (tmS 5) (tmS 14)) ∈ fl1 := List.mem_of_getElem? (i := 170) (by decide +kernel)
theorem ne_5_15 : Cond.not (Cond.eq (tmS 5) (tmS 15)) ∈ fl1 := List.mem_of_getElem? (i := 279) (by decide +kernel)
theorem ne_6_7 : Cond.not (Cond.eq (tmS 6) (tmS 7)) ∈ fl1 := List.mem_of_getElem? (i := 204) (by decide +kernel)
theorem ne_6_8 : Cond.not (Cond.eq (tmS 6) (tmS 8)) ∈ fl1 := List.mem_of_getElem? (i := 222) (by decide +kernel)
theorem ne_6_9 : Cond.not (Cond.eq (tmS 6) (tmS 9)) ∈ fl1 := List.mem_of_getElem? (i := 243) (by decide +kernel)
theorem ne_6_10 : Cond.not (Cond.eq (tmS 6) (tmS 10)) ∈ fl1 := List.mem_of_getElem? (i := 264) (by decide +kernel)
theorem ne_6_11 : Cond.not (Cond.eq (tmS 6) (tmS 11)) ∈ fl1 := List.mem_of_getElem? (i := 304) (by decide +kernel)
theorem ne_6_12 : Cond.not (Cond.eq (tmS 6) (tmS 12)) ∈ fl1 := List.mem_of_getElem? (i := 325) (by decide +kernel)
theorem ne_6_15 : Cond.not (Cond.eq (tmS 6) (tmS 15)) ∈ fl1 := List.mem_of_getElem? (i := 282) (by decide +kernel)
theorem ne_7_8 : Cond.not (Cond.eq (tmS 7) (tmS 8)) ∈ fl1 := List.mem_of_getElem? (i := 223) (by decide +kernel)
theorem ne_7_9 : Cond.not (Cond.eq (tmS 7) (tmS 9)) ∈ fl1 := List.mem_of_getElem? (i := 244) (by decide +kernel)
theorem ne_7_10 : Cond.not (Cond.eq (tmS 7) (tmS 10)) ∈ fl1 := List.mem_of_getElem? (i := 265) (by decide +kernel)
theorem ne_7_11 : Cond.not (Cond.eq (tmS 7) (tmS 11)) ∈ fl1 := List.mem_of_getElem? (i := 305) (by decide +kernel)
theorem ne_7_12 : Cond.not (Cond.eq (tmS 7) (tmS 12)) ∈ fl1 := List.mem_of_getElem? (i := 326) (by decide +kernel)
theorem ne_7_15 : Cond.not (Cond.eq (tmS 7) (tmS 15)) ∈ fl1 := List.mem_of_getElem? (i := 283) (by decide +kernel)
theorem ne_8_9 : Cond.not (Cond.eq (tmS 8) (tmS 9)) ∈ fl1 := List.mem_of_getElem? (i := 245) (by decide +kernel)
theorem ne_8_10 : Cond.not (Cond.eq (tmS 8) (tmS 10)) ∈ fl1 := List.mem_of_getElem? (i := 266) (by decide +kernel)
theorem ne_8_11 : Cond.not (Cond.eq (tmS 8) (tmS 11)) ∈ fl1 := List.mem_of_getElem? (i := 306) (by decide +kernel)
theorem ne_8_12 : Cond.not (Cond.eq (tmS 8) (tmS 12)) ∈ fl1 := List.mem_of_getElem? (i := 327) (by decide +kernel)
theorem ne_8_15 : Cond.not (Cond.eq (tmS 8) (tmS 15)) ∈ fl1 := List.mem_of_getElem? (i := 284) (by decide +kernel)
theorem ne_9_10 : Cond.not (Cond.eq (tmS 9) (tmS 10)) ∈ fl1 := List.mem_of_getElem? (i := 267) (by decide +kernel)
theorem ne_9_11 : Cond.not (Cond.eq (tmS 9) (tmS 11)) ∈ fl1 := List.mem_of_getElem? (i := 307) (by decide +kernel)
theorem ne_9_12 : Cond.not (Cond.eq (tmS 9) (tmS 12)) ∈ fl1 := List.mem_of_getElem? (i := 328) (by decide +kernel)
theorem ne_9_15 : Cond.not (Cond.eq (tmS 9) (tmS 15)) ∈ fl1 := List.mem_of_getElem? (i := 285) (by decide +kernel)
theorem ne_10_11 : Cond.not (Cond.eq (tmS 10) (tmS 11)) ∈ fl1 := List.mem_of_getElem? (i := 308) (by decide +kernel)
theorem ne_10_12 : Cond.not (Cond.eq (tmS 10) (tmS 12)) ∈ fl1 := List.mem_of_getElem? (i := 329) (by decide +kernel)
theorem ne_10_15 : Cond.not (Cond.eq (tmS 10) (tmS 15)) ∈ fl1 := List.mem_of_getElem? (i := 286) (by decide +kernel)
theorem ne_11_12 : Cond.not (Cond.eq (tmS 11) (tmS 12)) ∈ fl1 := List.mem_of_getElem? (i := 331) (by decide +kernel)
theorem ne_13_6 : Cond.not (Cond.eq (tmS 13) (tmS 6)) ∈ fl1 := List.mem_of_getElem? (i := 185) (by decide +kernel)
theorem ne_13_7 : Cond.not (Cond.eq (tmS 13) (tmS 7)) ∈ fl1 := List.mem_of_getElem? (i := 202) (by decide +kernel)
theorem ne_13_8 : Cond.not (Cond.eq (tmS 13) (tmS 8)) ∈ fl1 := List.mem_of_getElem? (i := 220) (by decide +kernel)
theorem ne_13_9 : Cond.not (Cond.eq (tmS 13) (tmS 9)) ∈ fl1 := List.mem_of_getElem? (i := 241) (by decide +kernel)
theorem ne_13_10 : Cond.not (Cond.eq (tmS 13) (tmS 10)) ∈ fl1 := List.mem_of_getElem? (i := 262) (by decide +kernel)
theorem ne_13_11 : Cond.not (Cond.eq (tmS 13) (tmS 11)) ∈ fl1 := List.mem_of_getElem? (i := 302) (by decide +kernel)
theorem ne_13_12 : Cond.not (Cond.eq (tmS 13) (tmS 12)) ∈ fl1 := List.mem_of_getElem? (i := 323) (by decide +kernel)
theorem ne_13_14 : Cond.not (Cond.eq (tmS 13) (tmS 14)) ∈ fl1 := List.mem_of_getElem? (i := 171) (by decide +kernel)
theorem ne_13_15 : Cond.not (Cond.eq (tmS 13) (tmS 15)) ∈ fl1 := List.mem_of_getElem? (i := 280) (by decide +kernel)
theorem ne_14_6 : Cond.not (Cond.eq (tmS 14) (tmS 6)) ∈ fl1 := List.mem_of_getElem? (i := 186) (by decide +kernel)
theorem ne_14_7 : Cond.not (Cond.eq (tmS 14) (tmS 7)) ∈ fl1 := List.mem_of_getElem? (i := 203) (by decide +kernel)
theorem ne_14_8 : Cond.not (Cond.eq (tmS 14) (tmS 8)) ∈ fl1 := List.mem_of_getElem? (i := 221) (by decide +kernel)
theorem ne_14_9 : Cond.not (Cond.eq (tmS 14) (tmS 9)) ∈ fl1 := List.mem_of_getElem? (i := 242) (by decide +kernel)
theorem ne_14_10 : Cond.not (Cond.eq (tmS 14) (tmS 10)) ∈ fl1 := List.mem_of_getElem? (i := 263) (by decide +kernel)
theorem ne_14_11 : Cond.not (Cond.eq (tmS 14) (tmS 11)) ∈ fl1 := List.mem_of_getElem? (i := 303) (by decide +kernel)
theorem ne_14_12 : Cond.not (Cond.eq (tmS 14) (tmS 12)) ∈ fl1 := List.mem_of_getElem? (i := 324) (by decide +kernel)
theorem ne_14_15 : Cond.not (Cond.eq (tmS 14) (tmS 15)) ∈ fl1 := List.mem_of_getElem? (i := 281) (by decide +kernel)
theorem ne_15_11 : Cond.not (Cond.eq (tmS 15) (tmS 11)) ∈ fl1 := List.mem_of_getElem? (i := 309) (by decide +kernel)
theorem ne_15_12 : Cond.not (Cond.eq (tmS 15) (tmS 12)) ∈ fl1 := List.mem_of_getElem? (i := 330) (by decide +kernel)
theorem fl_ne : ∀ i, i < 16 → ∀ j, j < 16 → i ≠ j → Cond.not (Cond.eq (tmS i) (tmS j)) ∈ fl1 ∨ Cond.not (Cond.eq (tmS j) (tmS i)) ∈ fl1 := by
  intro i hi j hj h
  match i, hi, j, hj, h with
  | 0, _, 0, _, h => exact absurd rfl h
  | 0, _, 1, _, _ => exact Or.inl ne_0_1
  | 0, _, 2, _, _ => exact Or.inl ne_0_2
  | 0, _, 3, _, _ => exact Or.inl ne_0_3
  | 0, _, 4, _, _ => exact Or.inl ne_0_4
  | 0, _, 5, _, _ => exact Or.inl ne_0_5
  | 0, _, 6, _, _ => exact Or.inl ne_0_6
  | 0, _, 7, _, _ => exact Or.inl ne_0_7
  | 0, _, 8, _, _ => exact Or.inl ne_0_8
  | 0, _, 9, _, _ => exact Or.inl ne_0_9
  | 0, _, 10, _, _ => exact Or.inl ne_0_10
  | 0, _, 11, _, _ => exact Or.inl ne_0_11
  | 0, _, 12, _, _ => exact Or.inl ne_0_12
  | 0, _, 13, _, _ => exact Or.inl ne_0_13
  | 0, _, 14, _, _ => exact Or.inl ne_0_14
  | 0, _, 15, _, _ => exact Or.inl ne_0_15
  | 1, _, 0, _, _ => exact Or.inr ne_0_1
  | 1, _, 1, _, h => exact absurd rfl h
  | 1, _, 2, _, _ => exact Or.inl ne_1_2
  | 1, _, 3, _, _ => exact Or.inl ne_1_3
  | 1, _, 4, _, _ => exact Or.inl ne_1_4
  | 1, _, 5, _, _ => exact Or.inl ne_1_5
  | 1, _, 6, _, _ => exact Or.inl ne_1_6
  | 1, _, 7, _, _ => exact Or.inl ne_1_7
  | 1, _, 8, _, _ => exact Or.inl ne_1_8
  | 1, _, 9, _, _ => exact Or.inl ne_1_9
  | 1, _, 10, _, _ => exact Or.inl ne_1_10
  | 1, _, 11, _, _ => exact Or.inl ne_1_11
  | 1, _, 12, _, _ => exact Or.inl ne_1_12
  | 1, _, 13, _, _ => exact Or.inl ne_1_13
  | 1, _, 14, _, _ => exact Or.inl ne_1_14
  | 1, _, 15, _, _ => exact Or.inl ne_1_15
  | 2, _, 0, _, _ => exact Or.inr ne_0_2
  | 2, _, 1, _, _ => exact Or.inr ne_1_2
  | 2, _, 2, _, h => exact absurd rfl h
  | 2, _, 3, _, _ => exact Or.inl ne_2_3
  | 2, _, 4, _, _ => exact Or.inl ne_2_4
  | 2, _, 5, _, _ => exact Or.inl ne_2_5
  | 2, _, 6, _, _ => exact Or.inl ne_2_6
  | 2, _, 7, _, _ => exact Or.inl ne_2_7
  | 2, _, 8, _, _ => exact Or.inl ne_2_8
  | 2, _, 9, _, _ => exact Or.inl ne_2_9
  | 2, _, 10, _, _ => exact Or.inl ne_2_10
  | 2, _, 11, _, _ => exact Or.inl ne_2_11
  | 2, _, 12, _, _ => exact Or.inl ne_2_12
  | 2, _, 13, _, _ => exact Or.inl ne_2_13
  | 2, _, 14, _, _ => exact Or.inl ne_2_14
  | 2, _, 15, _, _ => exact Or.inl ne_2_15
  | 3, _, 0, _, _ => exact Or.inr ne_0_3
  | 3, _, 1, _, _ => exact Or.inr ne_1_3
  | 3, _, 2, _, _ => exact Or.inr ne_2_3
  | 3, _, 3, _, h => exact absurd rfl h
  | 3, _, 4, _, _ => exact Or.inl ne_3_4
  | 3, _, 5, _, _ => exact Or.inl ne_3_5
  | 3, _, 6, _, _ => exact Or.inl ne_3_6
  | 3, _, 7, _, _ => exact Or.inl ne_3_7
  | 3, _, 8, _, _ => exact Or.inl ne_3_8
  | 3, _, 9, _, _ => exact Or.inl ne_3_9
  | 3, _, 10, _, _ => exact Or.inl ne_3_10
  | 3, _, 11, _, _ => exact Or.inl ne_3_11
  | 3, _, 12, _, _ => exact Or.inl ne_3_12
  | 3, _, 13, _, _ => exact Or.inl ne_3_13
  | 3, _, 14, _, _ => exact Or.inl ne_3_14
  | 3, _, 15, _, _ => exact Or.inl ne_3_15
  | 4, _, 0, _, _ => exact Or.inr ne_0_4
  | 4, _, 1, _, _ => exact Or.inr ne_1_4
  | 4, _, 2, _, _ => exact Or.inr ne_2_4
  | 4, _, 3, _, _ => exact Or.inr ne_3_4
  | 4, _, 4, _, h => exact absurd rfl h
  | 4, _, 5, _, _ => exact Or.inl ne_4_5
  | 4, _, 6, _, _ => exact Or.inl ne_4_6
  | 4, _, 7, _, _ => exact Or.inl ne_4_7
  | 4, _, 8, _, _ => exact Or.inl ne_4_8
  | 4, _, 9, _, _ => exact Or.inl ne_4_9
  | 4, _, 10, _, _ => exact Or.inl ne_4_10
  | 4, _, 11, _, _ => exact Or.inl ne_4_11
  | 4, _, 12, _, _ => exact Or.inl ne_4_12
  | 4, _, 13, _, _ => exact Or.inl ne_4_13
  | 4, _, 14, _, _ => exact Or.inl ne_4_14
  | 4, _, 15, _, _ => exact Or.inl ne_4_15
  | 5, _, 0, _, _ => exact Or.inr ne_0_5
  | 5, _, 1, _, _ => exact Or.inr ne_1_5
  | 5, _, 2, _, _ => exact Or.inr ne_2_5
  | 5, _, 3, _, _ => exact Or.inr ne_3_5
  | 5, _, 4, _, _ => exact Or.inr ne_4_5
  | 5, _, 5, _, h => exact absurd rfl h
  | 5, _, 6, _, _ => exact Or.inl ne_5_6
  | 5, _, 7, _, _ => exact Or.inl ne_5_7
  | 5, _, 8, _, _ => exact Or.inl ne_5_8
  | 5, _, 9, _, _ => exact Or.inl ne_5_9
  | 5, _, 10, _, _ => exact Or.inl ne_5_10
  | 5, _, 11, _, _ => exact Or.inl ne_5_11
  | 5, _, 12, _, _ => exact Or.inl ne_5_12
  | 5, _, 13, _, _ => exact Or.inl ne_5_13
  | 5, _, 14, _, _ => exact Or.inl ne_5_14
  | 5, _, 15, _, _ => exact Or.inl ne_5_15
  | 6, _, 0, _, _ => exact Or.inr ne_0_6
  | 6, _, 1, _, _ => exact Or.inr ne_1_6
  | 6, _, 2, _, _ => exact Or.inr ne_2_6
  | 6, _, 3, _, _ => exact Or.inr ne_3_6
  | 6, _, 4, _, _ => exact Or.inr ne_4_6
  | 6, _, 5, _, _ => exact Or.inr ne_5_6
  | 6, _, 6, _, h => exact absurd rfl h
  | 6, _, 7, _, _ => exact Or.inl ne_6_7
  | 6, _, 8, _, _ => exact Or.inl ne_6_8
  | 6, _, 9, _, _ => exact Or.inl ne_6_9
  | 6, _, 10, _, _ => exact Or.inl ne_6_10
  | 6, _, 11, _, _ => exact Or.inl ne_6_11
  | 6, _, 12, _, _ => exact Or.inl ne_6_12
  | 6, _, 13, _, _ => exact Or.inr ne_13_6
  | 6, _, 14, _, _ => exact Or.inr ne_14_6
  | 6, _, 15, _, _ => exact Or.inl ne_6_15
  | 7, _, 0, _, _ => exact Or.inr ne_0_7
  | 7, _, 1, _, _ => exact Or.inr ne_1_7
  | 7, _, 2, _, _ => exact Or.inr ne_2_7
  | 7, _, 3, _, _ => exact Or.inr ne_3_7
  | 7, _, 4, _, _ => exact Or.inr ne_4_7
  | 7, _, 5, _, _ => exact Or.inr ne_5_7
  | 7, _, 6, _, _ => exact Or.inr ne_6_7
  | 7, _, 7, _, h => exact absurd rfl h
  | 7, _, 8, _, _ => exact Or.inl ne_7_8
  | 7, _, 9, _, _ => exact Or.inl ne_7_9
  | 7, _, 10, _, _ => exact Or.inl ne_7_10
  | 7, _, 11, _, _ => exact Or.inl ne_7_11
  | 7, _, 12, _, _ => exact Or.inl ne_7_12
  | 7, _, 13, _, _ => exact Or.inr ne_13_7
  | 7, _, 14, _, _ => exact Or.inr ne_14_7
  | 7, _, 15, _, _ => exact Or.inl ne_7_15
  | 8, _, 0, _, _ => exact Or.inr ne_0_8
  | 8, _, 1, _, _ => exact Or.inr ne_1_8
  | 8, _, 2, _, _ => exact Or.inr ne_2_8
  | 8, _, 3, _, _ => exact Or.inr ne_3_8
  | 8, _, 4, _, _ => exact Or.inr ne_4_8
  | 8, _, 5, _, _ => exact Or.inr ne_5_8
  | 8, _, 6, _, _ => exact Or.inr ne_6_8
  | 8, _, 7, _, _ => exact Or.inr ne_7_8
  | 8, _, 8, _, h => exact absurd rfl h
  | 8, _, 9, _, _ => exact Or.inl ne_8_9
  | 8, _, 10, _, _ => exact Or.inl ne_8_10
  | 8, _, 11, _, _ => exact Or.inl ne_8_11
  | 8, _, 12, _, _ => exact Or.inl ne_8_12
  | 8, _, 13, _, _ => exact Or.inr ne_13_8
  | 8, _, 14, _, _ => exact Or.inr ne_14_8
  | 8, _, 15, _, _ => exact Or.inl ne_8_15
  | 9, _, 0, _, _ => exact Or.inr ne_0_9
  | 9, _, 1, _, _ => exact Or.inr ne_1_9
  | 9, _, 2, _, _ => exact Or.inr ne_2_9
  | 9, _, 3, _, _ => exact Or.inr ne_3_9
  | 9, _, 4, _, _ => exact Or.inr ne_4_9
  | 9, _, 5, _, _ => exact Or.inr ne_5_9
  | 9, _, 6, _, _ => exact Or.inr ne_6_9
  | 9, _, 7, _, _ => exact Or.inr ne_7_9
  | 9, _, 8, _, _ => exact Or.inr ne_8_9
  | 9, _, 9, _, h => exact absurd rfl h
  | 9, _, 10, _, _ => exact Or.inl ne_9_10
  | 9, _, 11, _, _ => exact Or.inl ne_9_11
  | 9, _, 12, _, _ => exact Or.inl ne_9_12
  | 9, _, 13, _, _ => exact Or.inr ne_13_9
  | 9, _, 14, _, _ => exact Or.inr ne_14_9
  | 9, _, 15, _, _ => exact Or.inl ne_9_15
  | 10, _, 0, _, _ => exact Or.inr ne_0_10
  | 10, _, 1, _, _ => exact Or.inr ne_1_10
  | 10, _, 2, _, _ => exact Or.inr ne_2_10
  | 10, _, 3, _, _ => exact Or.inr ne_3_10
  | 10, _, 4, _, _ => exact Or.inr ne_4_10
  | 10, _, 5, _, _ => exact Or.inr ne_5_10
  | 10, _, 6, _, _ => exact Or.inr ne_6_10
  | 10, _, 7, _, _ => exact Or.inr ne_7_10
  | 10, _, 8, _, _ => exact Or.inr ne_8_10
  | 10, _, 9, _, _ => exact Or.inr ne_9_10
  | 10, _, 10, _, h => exact absurd rfl h
  | 10, _, 11, _, _ => exact Or.inl ne_10_11
  | 10, _, 12, _, _ => exact Or.inl ne_10_12
  | 10, _, 13, _, _ => exact Or.inr ne_13_10
  | 10, _, 14, _, _ => exact Or.inr ne_14_10
  | 10, _, 15, _, _ => exact Or.inl ne_10_15
  | 11, _, 0, _, _ => exact Or.inr ne_0_11
  | 11, _, 1, _, _ => exact Or.inr ne_1_11
  | 11, _, 2, _, _ => exact Or.inr ne_2_11
  | 11, _, 3, _, _ => exact Or.inr ne_3_11
  | 11, _, 4, _, _ => exact Or.inr ne_4_11
  | 11, _, 5, _, _ => exact Or.inr ne_5_11
  | 11, _, 6, _, _ => exact Or.inr ne_6_11
  | 11, _, 7, _, _ => exact Or.inr ne_7_11
  | 11, _, 8, _, _ => exact Or.inr ne_8_11
  | 11, _, 9, _, _ => exact Or.inr ne_9_11
  | 11, _, 10, _, _ => exact Or.inr ne_10_11
  | 11, _, 11, _, h => exact absurd rfl h
  | 11, _, 12, _, _ => exact Or.inl ne_11_12
  | 11, _, 13, _, _ => exact Or.inr ne_13_11
  | 11, _, 14, _, _ => exact Or.inr ne_14_11
  | 11, _, 15, _, _ => exact Or.inr ne_15_11
  | 12, _, 0, _, _ => exact Or.inr ne_0_12
  | 12, _, 1, _, _ => exact Or.inr ne_1_12
  | 12, _, 2, _, _ => exact Or.inr ne_2_12
  | 12, _, 3, _, _ => exact Or.inr ne_3_12
  | 12, _, 4, _, _ => exact Or.inr ne_4_12
  | 12, _, 5, _, _ => exact Or.inr ne_5_12
  | 12, _, 6, _, _ => exact Or.inr ne_6_12
  | 12, _, 7, _, _ => exact Or.inr ne_7_12
  | 12, _, 8, _, _ => exact Or.inr ne_8_12
  | 12, _, 9, _, _ => exact Or.inr ne_9_12
  | 12, _, 10, _, _ => exact Or.inr ne_10_12
  | 12, _, 11, _, _ => exact Or.inr ne_11_12
  | 12, _, 12, _, h => exact absurd rfl h
  | 12, _, 13, _, _ => exact Or.inr ne_13_12
  | 12, _, 14, _, _ => exact Or.inr ne_14_12
  | 12, _, 15, _, _ => exact Or.inr ne_15_12
  | 13, _, 0, _, _ => exact Or.inr ne_0_13
  | 13, _, 1, _, _ => exact Or.inr ne_1_13
  | 13, _, 2, _, _ => exact Or.inr ne_2_13
  | 13, _, 3, _, _ => exact Or.inr ne_3_13
  | 13, _, 4, _, _ => exact Or.inr ne_4_13
  | 13, _, 5, _, _ => exact Or.inr ne_5_13
  | 13, _, 6, _, _ => exact Or.inl ne_13_6
  | 13, _, 7, _, _ => exact Or.inl ne_13_7
  | 13, _, 8, _, _ => exact Or.inl ne_13_8
  | 13, _, 9, _, _ => exact Or.inl ne_13_9
  | 13, _, 10, _, _ => exact Or.inl ne_13_10
  | 13, _, 11, _, _ => exact Or.inl ne_13_11
  | 13, _, 12, _, _ => exact Or.inl ne_13_12
  | 13, _, 13, _, h => exact absurd rfl h
  | 13, _, 14, _, _ => exact Or.inl ne_13_14
  | 13, _, 15, _, _ => exact Or.inl ne_13_15
  | 14, _, 0, _, _ => exact Or.inr ne_0_14
  | 14, _, 1, _, _ => exact Or.inr ne_1_14
  | 14, _, 2, _, _ => exact Or.inr ne_2_14
  | 14, _, 3, _, _ => exact Or.inr ne_3_14
  | 14, _, 4, _, _ => exact Or.inr ne_4_14
  | 14, _, 5, _, _ => exact Or.inr ne_5_14
  | 14, _, 6, _, _ => exact Or.inl ne_14_6
  | 14, _, 7, _, _ => exact Or.inl ne_14_7
  | 14, _, 8, _, _ => exact Or.inl ne_14_8
  | 14, _, 9, _, _ => exact Or.inl ne_14_9
  | 14, _, 10, _, _ => exact Or.inl ne_14_10
  | 14, _, 11, _, _ => exact Or.inl ne_14_11
  | 14, _, 12, _, _ => exact Or.inl ne_14_12
  | 14, _, 13, _, _ => exact Or.inr ne_13_14
  | 14, _, 14, _, h => exact absurd rfl h
  | 14, _, 15, _, _ => exact Or.inl ne_14_15
  | 15, _, 0, _, _ => exact Or.inr ne_0_15
  | 15, _, 1, _, _ => exact Or.inr ne_1_15
  | 15, _, 2, _, _ => exact Or.inr ne_2_15
  | 15, _, 3, _, _ => exact Or.inr ne_3_15
  | 15, _, 4, _, _ => exact Or.inr ne_4_15
  | 15, _, 5, _, _ => exact Or.inr ne_5_15
  | 15, _, 6, _, _ => exact Or.inr ne_6_15
  | 15, _, 7, _, _ => exact Or.inr ne_7_15
  | 15, _, 8, _, _ => exact Or.inr ne_8_15
  | 15, _, 9, _, _ => exact Or.inr ne_9_15
  | 15, _, 10, _, _ => exact Or.inr ne_10_15
  | 15, _, 11, _, _ => exact Or.inl ne_15_11
  | 15, _, 12, _, _ => exact Or.inl ne_15_12
  | 15, _, 13, _, _ => exact Or.inr ne_13_15
  | 15, _, 14, _, _ => exact Or.inr ne_14_15
  | 15, _, 15, _, h => exact absurd rfl h
  | i + 16, hi, _, _, _ => exact absurd hi (by omega)
  | _, _, j + 16, hj, _ => exact absurd hj (by omega)
theorem fl_sa : ∀ k, k < 4 → Cond.arrayOf (.static "WarmGossip" (st_name k) "[I") .int ∈ fl1 := by decide +kernel
theorem fl_sl : ∀ k, k < 4 → Cond.eq (.length (.static "WarmGossip" (st_name k) "[I")) (.int (Int32.ofNat (st_vals k).length)) ∈ fl1 := by decide +kernel
theorem fl_se : ∀ k, k < 4 → ∀ j, j < (st_vals k).length → Cond.eq (.elem (.static "WarmGossip" (st_name k) "[I") (.int (Int32.ofNat j))) (.int ((st_vals k).getD j 0)) ∈ fl1 := by decide +kernel
theorem fl_cs : Cond.eq (.static "java/lang/String" "COMPACT_STRINGS" "Z") (.int 1) ∈ fl1 := by decide +kernel
theorem fl_si : Cond.isRef (.static "jdk/internal/util/Preconditions" "SIOOBE_FORMATTER" "Ljava/util/function/BiFunction;") ∈ fl1 := by decide +kernel
set_option maxRecDepth 100000 in
set_option maxHeartbeats 4000000 in
theorem law_G {s : State} {args : Array Value} (hq : ∀ w ∈ fl1, w.before args s = true) (hts : ∀ w ∈ lw_tbl, w.before args s = true) : ∃ G : GE, va_K G.1 vwCl (tysG G) s ∧ NW G s ∧ SF G (fun q => s.heap.size ≤ q) s s.heap ∧ ZW G s := by
  have hA : ∀ a : Nat, a < s.heap.size → ¬ (fun q : Nat => s.heap.size ≤ q) a := fun a h => Nat.not_le.mpr h
  obtain ⟨cX0, iX0, kX0⟩ := u_known (C := RX0) (T := TX0) (N := 6) (n := 6) hts (fun w h => wg_tbl _ (u_ws_X0 w h)) (hts _ (wg_tbl _ u_ia_X0))
  obtain ⟨cX1, iX1, kX1⟩ := u_known (C := RX1) (T := TX1) (N := 11) (n := 11) hts (fun w h => wg_tbl _ (u_ws_X1 w h)) (hts _ (wg_tbl _ u_ia_X1))
  obtain ⟨cX2, iX2, kX2⟩ := u_known (C := RX2) (T := TX2) (N := 3) (n := 3) hts (fun w h => wg_tbl _ (u_ws_X2 w h)) (hts _ (wg_tbl _ u_ia_X2))
  obtain ⟨cX3, iX3, kX3⟩ := u_known (C := RX3) (T := TX3) (N := 3) (n := 3) hts (fun w h => wg_tbl _ (u_ws_X3 w h)) (hts _ (wg_tbl _ u_ia_X3))
  obtain ⟨cX4, iX4, kX4⟩ := u_known (C := RX4) (T := TX4) (N := 5) (n := 5) hts (fun w h => wg_tbl _ (u_ws_X4 w h)) (hts _ (wg_tbl _ u_ia_X4))
  obtain ⟨cX5, iX5, kX5⟩ := u_known (C := RX5) (T := TX5) (N := 10) (n := 10) hts (fun w h => wg_tbl _ (u_ws_X5 w h)) (hts _ (wg_tbl _ u_ia_X5))
  obtain ⟨cX6, iX6, kX6⟩ := u_known (C := RX6) (T := TX6) (N := 26) (n := 26) hts (fun w h => wg_tbl _ (u_ws_X6 w h)) (hts _ (wg_tbl _ u_ia_X6))
  obtain ⟨cI, kI, c0, fI, hkI, hkindI⟩ := Cond.arrayClass_spec (hts _ (wg_tbl _ u_ac_I))
  obtain ⟨cB, kB, c1, fB, hkB, hkindB⟩ := Cond.arrayClass_spec (hts _ (wg_tbl _ u_ac_B))
  have oS : (Cond.arrayOver (.object "WarmGossip$Sheet")).before args s = true := (hts _ (List.mem_of_getElem? (i := 179) (by decide +kernel)))
  have oH : (Cond.arrayOver (.object "WarmGossip$Shelf")).before args s = true := (hts _ (List.mem_of_getElem? (i := 201) (by decide +kernel)))
  have oI : (Cond.arrayOver (.array .int)).before args s = true := (hts _ (List.mem_of_getElem? (i := 177) (by decide +kernel)))
  obtain ⟨pS, cS, kS, fS1, -, hkS, hkindS, fS⟩ := Cond.arrayOver_spec oS
  obtain ⟨pH, cH, kH, fH1, -, hkH, hkindH, fH⟩ := Cond.arrayOver_spec oH
  obtain ⟨pJ, cJ, kJ, fJ1, -, hkJ, hkindJ, fJ⟩ := arrayOverA_spec oI
  have eI : pJ = cI := Option.some.inj (fJ1.symm.trans fI)
  subst eI
  obtain ⟨adK, adV, hS, hSe⟩ := vk_Sof (args := args) (s := s) (N := 16) (tm := tmS) (len := sk_len) (byt := sk_byt) (A := fun q : Nat => s.heap.size ≤ q) (by decide) (fun i hi => hq _ (fl_ex i hi)) (fun i hi => hq _ (fl_co i hi)) (fun i hi => hq _ (fl_ar i hi)) (fun i hi => hq _ (fl_le i hi)) (fun i hi j hj => hq _ (fl_el i hi j hj)) (fun i j hi hj hne => (fl_ne i hi j hj hne).imp (hq _) (hq _)) hA
  obtain ⟨t0, ht0, hT0⟩ := va_Tof (args := args) (s := s) (tm := .static "WarmGossip" (st_name 0) "[I") (ty := .int) (N := (st_vals 0).length) (f := fun j => .int ((st_vals 0).getD j 0)) (A := fun q : Nat => s.heap.size ≤ q) (by decide) (hq _ (fl_sa 0 (by decide))) (va_eqt (hq _ (fl_sl 0 (by decide)))) (fun j hj => va_eqt (hq _ (fl_se 0 (by decide) j hj))) hA
  have hZ0 := va_Zref (C := "WarmGossip") (n := st_name 0) (d := "[I") (A := fun q : Nat => s.heap.size ≤ q) (hts _ (List.mem_of_getElem? (i := 100) (by decide +kernel))) (hts _ (wg_tbl _ u_in_X5)) ht0 hA
  obtain ⟨t1, ht1, hT1⟩ := va_Tof (args := args) (s := s) (tm := .static "WarmGossip" (st_name 1) "[I") (ty := .int) (N := (st_vals 1).length) (f := fun j => .int ((st_vals 1).getD j 0)) (A := fun q : Nat => s.heap.size ≤ q) (by decide) (hq _ (fl_sa 1 (by decide))) (va_eqt (hq _ (fl_sl 1 (by decide)))) (fun j hj => va_eqt (hq _ (fl_se 1 (by decide) j hj))) hA
  have hZ1 := va_Zref (C := "WarmGossip") (n := st_name 1) (d := "[I") (A := fun q : Nat => s.heap.size ≤ q) (hts _ (List.mem_of_getElem? (i := 416) (by decide +kernel))) (hts _ (wg_tbl _ u_in_X5)) ht1 hA
  obtain ⟨t2, ht2, hT2⟩ := va_Tof (args := args) (s := s) (tm := .static "WarmGossip" (st_name 2) "[I") (ty := .int) (N := (st_vals 2).length) (f := fun j => .int ((st_vals 2).getD j 0)) (A := fun q : Nat => s.heap.size ≤ q) (by decide) (hq _ (fl_sa 2 (by decide))) (va_eqt (hq _ (fl_sl 2 (by decide)))) (fun j hj => va_eqt (hq _ (fl_se 2 (by decide) j hj))) hA
  have hZ2 := va_Zref (C := "WarmGossip") (n := st_name 2) (d := "[I") (A := fun q : Nat => s.heap.size ≤ q) (hts _ (List.mem_of_getElem? (i := 785) (by decide +kernel))) (hts _ (wg_tbl _ u_in_X5)) ht2 hA
  obtain ⟨t3, ht3, hT3⟩ := va_Tof (args := args) (s := s) (tm := .static "WarmGossip" (st_name 3) "[I") (ty := .int) (N := (st_vals 3).length) (f := fun j => .int ((st_vals 3).getD j 0)) (A := fun q : Nat => s.heap.size ≤ q) (by decide) (hq _ (fl_sa 3 (by decide))) (va_eqt (hq _ (fl_sl 3 (by decide)))) (fun j hj => va_eqt (hq _ (fl_se 3 (by decide) j hj))) hA
  have hZ3 := va_Zref (C := "WarmGossip") (n := st_name 3) (d := "[I") (A := fun q : Nat => s.heap.size ≤ q) (hts _ (List.mem_of_getElem? (i := 803) (by decide +kernel))) (hts _ (wg_tbl _ u_in_X5)) ht3 hA
  refine ⟨((fun k => if k = 0 then cX0 else if k = 1 then cX1 else if k = 2 then cX2 else if k = 3 then cX3 else if k = 4 then cX4 else if k = 5 then cX5 else cX6, fun k => if k = 0 then iX0 else if k = 1 then iX1 else if k = 2 then iX2 else if k = 3 then iX3 else if k = 4 then iX4 else if k = 5 then iX5 else iX6), fun k => if k = 0 then pJ else if k = 1 then cB else if k = 2 then cJ else if k = 3 then cS else cH, adK, adV, adL [t0, t1, t2, t3]), ⟨fun k q hq => ?_, fun k q hq => ?_⟩, ?_, ?_, ?_⟩
  · match k, hq with
    | 0, hq => cases hq; exact kX0
    | 1, hq => cases hq; exact kX1
    | 2, hq => cases hq; exact kX2
    | 3, hq => cases hq; exact kX3
    | 4, hq => cases hq; exact kX4
    | 5, hq => cases hq; exact kX5
    | 6, hq => cases hq; exact kX6
    | k + 7, hq => cases hq
  · match k, hq with
    | 0, hq => cases hq; exact ⟨fun n z => ⟨fun k h => (by cases h), kI, hkI, c0, hkindI⟩, fI⟩
    | 1, hq => cases hq; exact ⟨fun n z => ⟨fun k h => (by cases h), kB, hkB, c1, hkindB⟩, fB⟩
    | 2, hq => cases hq; exact ⟨fun n z => ⟨fun k h => (by cases h), kJ, hkJ, pJ, hkindJ⟩, fJ⟩
    | 3, hq => cases hq; exact ⟨fun n z => ⟨fun k h => (by cases h), kS, hkS, pS, hkindS⟩, kS, pS, hkS, hkindS, fS1, fS⟩
    | 4, hq => cases hq; exact ⟨fun n z => ⟨fun k h => (by cases h), kH, hkH, pH, hkindH⟩, kH, pH, hkH, hkindH, fH1, fH⟩
    | k + 5, hq => cases hq
  · refine ⟨va_Nw.of rfl (hts _ (List.mem_of_getElem? (i := 802) (by decide +kernel))), va_Nw.of rfl (hts _ (List.mem_of_getElem? (i := 99) (by decide +kernel))), va_Nw.of rfl (hts _ (List.mem_of_getElem? (i := 415) (by decide +kernel))), va_Nw.of rfl (hts _ (List.mem_of_getElem? (i := 542) (by decide +kernel))), va_Nw.of rfl (hts _ (List.mem_of_getElem? (i := 302) (by decide +kernel))), fun i hi => ?_⟩
    have he := hSe i hi
    match i, hi, he with
    | 0, _, he => exact vk_R.of (hts _ (List.mem_of_getElem? (i := 315) (by decide +kernel))) he
    | 1, _, he => exact vk_R.of (hts _ (List.mem_of_getElem? (i := 368) (by decide +kernel))) he
    | 2, _, he => exact vk_R.of (hts _ (List.mem_of_getElem? (i := 369) (by decide +kernel))) he
    | 3, _, he => exact vk_R.of (hts _ (List.mem_of_getElem? (i := 370) (by decide +kernel))) he
    | 4, _, he => exact vk_R.of (hts _ (List.mem_of_getElem? (i := 371) (by decide +kernel))) he
    | 5, _, he => exact vk_R.of (hts _ (List.mem_of_getElem? (i := 372) (by decide +kernel))) he
    | 6, _, he => exact vk_R.of (hts _ (List.mem_of_getElem? (i := 407) (by decide +kernel))) he
    | 7, _, he => exact vk_R.of (hts _ (List.mem_of_getElem? (i := 408) (by decide +kernel))) he
    | 8, _, he => exact vk_R.of (hts _ (List.mem_of_getElem? (i := 409) (by decide +kernel))) he
    | 9, _, he => exact vk_R.of (hts _ (List.mem_of_getElem? (i := 410) (by decide +kernel))) he
    | 10, _, he => exact vk_R.of (hts _ (List.mem_of_getElem? (i := 417) (by decide +kernel))) he
    | 11, _, he => exact vk_R.of (hts _ (List.mem_of_getElem? (i := 423) (by decide +kernel))) he
    | 12, _, he => exact vk_R.of (hts _ (List.mem_of_getElem? (i := 424) (by decide +kernel))) he
    | 13, _, he => exact vk_R.of (hts _ (List.mem_of_getElem? (i := 377) (by decide +kernel))) he
    | 14, _, he => exact vk_R.of (hts _ (List.mem_of_getElem? (i := 394) (by decide +kernel))) he
    | 15, _, he => exact vk_R.of (hts _ (List.mem_of_getElem? (i := 422) (by decide +kernel))) he
    | i + 16, hi, _ => exact absurd hi (by omega)
  · refine ⟨fun k hk => ?_, va_Zof (hts _ (List.mem_of_getElem? (i := 329) (by decide +kernel))) (hts _ (wg_tbl _ u_in_J0)) (va_eqi (hq _ fl_cs)) hA, va_Zqof (hts _ (List.mem_of_getElem? (i := 345) (by decide +kernel))) (hts _ (wg_tbl _ u_in_J3)) (hq _ fl_si) hA, hS⟩
    match k, hk with
    | 0, _ => exact ⟨hZ0, hT0⟩
    | 1, _ => exact ⟨hZ1, hT1⟩
    | 2, _ => exact ⟨hZ2, hT2⟩
    | 3, _ => exact ⟨hZ3, hT3⟩
    | k + 4, hk => exact absurd hk (by omega)
  · exact ⟨⟨kJ, kI, c0, fJ, hkJ, hkindJ, hkI, hkindI⟩, va_AO.of oS, va_AO.of oH, va_Nw.of rfl (hts _ (List.mem_of_getElem? (i := 154) (by decide +kernel))), va_Nw.of rfl (hts _ (List.mem_of_getElem? (i := 181) (by decide +kernel))), va_Nw.of rfl (hts _ (List.mem_of_getElem? (i := 203) (by decide +kernel))), va_Nw.of rfl (hts _ (List.mem_of_getElem? (i := 222) (by decide +kernel)))⟩

