/-! ===== the law: a case, the loop ===== -/
def zbl (x : Int32) : Int32 := if x = 0 then 0 else 1
section ZS2
variable {X : zX} {cc : ByteArray} {own : String} {d : Nat} {pc : Nat} {L : List (Option zV)} {st : List zV} {f : zM} {Ln : Nat} {xs : Nat → Int32}
theorem z_sldk {i : Int32} {b k : Nat} (C : zC X cc own d) (hs : zXs X Ln xs) (hi : i = nI (b + k)) (hk : b + k < Ln) (h31 : Ln < 2 ^ 31) (hd : decode cc pc = .ok (.iaload, 1)) (kk : Z X (pc + 1) L (zi (xs (b + k)) :: st) f) : Z X pc L (zi i :: zr 44 0 :: st) f := by
  subst hi
  refine z_sld C hs (nI_in hk h31) hd ?_
  rw [nI_clamp (by omega)]
  exact kk
end ZS2
def zCall_0 (f : zM) (a : Nat → Int32) (J : zM → Prop) : Prop := ZM 14 yX9_crime cX9_crime 7 (some .int) [zr 0 0, zi (a 1), zi (a 2), zi (a 3), zi (a 4), zi (a 5), zi (zbl (a 6))] f (fun r g => ∃ v, r = some (zi v) ∧ ZM 14 yX10_crime cX10_crime 7 (some .int) [zr 25 0, zi (a 1), zi (a 2), zi (a 3), zi (a 4), zi (a 5), zi (zbl (a 6))] g (fun r2 g2 => (∃ v2, r2 = some (zi v2)) ∧ J g2))
def zCall_1 (f : zM) (a : Nat → Int32) (J : zM → Prop) : Prop := ZM 14 yX9_deed cX9_deed 5 (some .int) [zr 0 0, zi (a 1), zi (a 2), zi (a 3), zi (a 4)] f (fun r g => ∃ v, r = some (zi v) ∧ ZM 14 yX10_deed cX10_deed 5 (some .int) [zr 25 0, zi (a 1), zi (a 2), zi (a 3), zi (a 4)] g (fun r2 g2 => (∃ v2, r2 = some (zi v2)) ∧ J g2))
def zCall_2 (f : zM) (a : Nat → Int32) (J : zM → Prop) : Prop := ZM 14 yX9_years cX9_years 8 (some .int) [zr 0 0, zi (a 1), zi (a 2), zi (a 3), zi (a 4), zi (a 5), zi (a 6)] f (fun r g => ∃ v, r = some (zi v) ∧ ZM 14 yX10_years cX10_years 7 (some .int) [zr 25 0, zi (a 1), zi (a 2), zi (a 3), zi (a 4), zi (a 5), zi (a 6)] g (fun r2 g2 => (∃ v2, r2 = some (zi v2)) ∧ J g2))
def zCall_3 (f : zM) (a : Nat → Int32) (J : zM → Prop) : Prop := ZM 14 yX9_named cX9_named 8 (some .int) [zr 0 0, zi (a 1), zi (a 2), zi (a 3), zi (a 4), zi (a 5), zi (a 6)] f (fun r g => ∃ v, r = some (zi v) ∧ ZM 14 yX10_named cX10_named 9 (some .int) [zr 25 0, zi (a 1), zi (a 2), zi (a 3), zi (a 4), zi (a 5), zi (a 6)] g (fun r2 g2 => (∃ v2, r2 = some (zi v2)) ∧ J g2))
def zCall_4 (f : zM) (a : Nat → Int32) (J : zM → Prop) : Prop := ZM 14 yX9_custom cX9_custom 7 (some .int) [zr 0 0, zi (a 1), zi (a 2), zi (a 3), zi (a 4), zi (a 5)] f (fun r g => ∃ v, r = some (zi v) ∧ ZM 14 yX10_custom cX10_custom 6 (some .int) [zr 25 0, zi (a 1), zi (a 2), zi (a 3), zi (a 4), zi (a 5)] g (fun r2 g2 => (∃ v2, r2 = some (zi v2)) ∧ J g2))
def zCall_5 (f : zM) (a : Nat → Int32) (J : zM → Prop) : Prop := ZM 14 yX9_type cX9_type 6 (some .int) [zr 0 0, zl ((a 1).toInt64 <<< ((32 : Int32).toInt64 &&& 63) ||| (a 2).toInt64 &&& 4294967295), zi (a 3)] f (fun r g => ∃ v, r = some (zi v) ∧ ZM 14 yX10_type cX10_type 5 (some .int) [zr 25 0, zl ((a 1).toInt64 <<< ((32 : Int32).toInt64 &&& 63) ||| (a 2).toInt64 &&& 4294967295), zi (a 3)] g (fun r2 g2 => (∃ v2, r2 = some (zi v2)) ∧ J g2))
def zCall_6 (f : zM) (a : Nat → Int32) (J : zM → Prop) : Prop := ZMs 14 yX9_world cX9_world 3 (some .int) [zr 0 0] f (fun r g => ∃ v, r = some (zi v) ∧ ZM 14 yX10_world cX10_world 4 (some .int) [zr 25 0] g (fun r2 g2 => (∃ v2, r2 = some (zi v2)) ∧ J g2))
def zCall_7 (f : zM) (a : Nat → Int32) (J : zM → Prop) : Prop := ZM 14 yX9_crimeOf cX9_crimeOf 4 (some .int) [zr 0 0, zi (a 1), zi (a 2)] f (fun r g => ∃ v, r = some (zi v) ∧ ZM 14 yX10_crimeOf cX10_crimeOf 3 (some .int) [zr 25 0, zi (a 1), zi (a 2)] g (fun r2 g2 => (∃ v2, r2 = some (zi v2)) ∧ J g2))
def zCall_8 (f : zM) (a : Nat → Int32) (J : zM → Prop) : Prop := ZM 14 yX9_paper cX9_paper 4 (some .int) [zr 0 0, zi (a 1), zi (a 2)] f (fun r g => ∃ v, r = some (zi v) ∧ ZM 14 yX10_paper cX10_paper 5 (some .int) [zr 25 0, zi (a 1), zi (a 2)] g (fun r2 g2 => (∃ v2, r2 = some (zi v2)) ∧ J g2))
def zCall_9 (f : zM) (a : Nat → Int32) (J : zM → Prop) : Prop := ZM 14 yX9_bars cX9_bars 4 (some .int) [zr 0 0, zi (a 1), zi (a 2)] f (fun r g => ∃ v, r = some (zi v) ∧ ZM 14 yX10_bars cX10_bars 4 (some .int) [zr 25 0, zi (a 1), zi (a 2)] g (fun r2 g2 => (∃ v2, r2 = some (zi v2)) ∧ J g2))
def zCall_10 (f : zM) (a : Nat → Int32) (J : zM → Prop) : Prop := ZM 14 yX9_matches cX9_matches 5 (some .int) [zr 0 0, zi (a 1), zi (a 2), zi (a 3)] f (fun r g => ∃ v, r = some (zi v) ∧ ZM 14 yX10_matches cX10_matches 4 (some .int) [zr 25 0, zi (a 1), zi (a 2), zi (a 3)] g (fun r2 g2 => (∃ v2, r2 = some (zi v2)) ∧ J g2))
def zCall_11 (f : zM) (a : Nat → Int32) (J : zM → Prop) : Prop := ZM 14 yX9_yearsOf cX9_yearsOf 5 (some .int) [zr 0 0, zi (a 1), zi (a 2), zi (a 3)] f (fun r g => ∃ v, r = some (zi v) ∧ ZM 14 yX10_yearsOf cX10_yearsOf 4 (some .int) [zr 25 0, zi (a 1), zi (a 2), zi (a 3)] g (fun r2 g2 => (∃ v2, r2 = some (zi v2)) ∧ J g2))
def zCall_12 (f : zM) (a : Nat → Int32) (J : zM → Prop) : Prop := ZM 14 yX9_shows cX9_shows 8 (some .int) [zr 0 0, zi (a 1), zi (a 2), zi (a 3), zi (a 4)] f (fun r g => ∃ v, r = some (zi v) ∧ ZM 14 yX10_shows cX10_shows 9 (some .int) [zr 25 0, zi (a 1), zi (a 2), zi (a 3), zi (a 4)] g (fun r2 g2 => (∃ v2, r2 = some (zi v2)) ∧ J g2))
def zCall_13 (f : zM) (a : Nat → Int32) (J : zM → Prop) : Prop := ZM 14 yX9_count cX9_count 2 (some .int) [zr 0 0, zi (a 1)] f (fun r g => ∃ v, r = some (zi v) ∧ ZM 14 yX10_count cX10_count 2 (some .int) [zr 25 0, zi (a 1)] g (fun r2 g2 => (∃ v2, r2 = some (zi v2)) ∧ J g2))
def zCall_14 (f : zM) (a : Nat → Int32) (J : zM → Prop) : Prop := ZM 14 yX9_man cX9_man 4 (some .int) [zr 0 0, zi (a 1), zi (a 2)] f (fun r g => ∃ v, r = some (zi v) ∧ ZM 14 yX10_man cX10_man 4 (some .int) [zr 25 0, zi (a 1), zi (a 2)] g (fun r2 g2 => (∃ v2, r2 = some (zi v2)) ∧ J g2))
def zCall_15 (f : zM) (a : Nat → Int32) (J : zM → Prop) : Prop := ZM 14 yX9_judged cX9_judged 4 (some .int) [zr 0 0, zi (a 1), zi (zbl (a 2))] f (fun r g => ∃ v, r = some (zi v) ∧ ZM 14 yX10_judged cX10_judged 4 (some .int) [zr 25 0, zi (a 1), zi (zbl (a 2))] g (fun r2 g2 => (∃ v2, r2 = some (zi v2)) ∧ J g2))
def zCall_16 (f : zM) (a : Nat → Int32) (J : zM → Prop) : Prop := ZM 14 yX9_bound cX9_bound 2 (some .int) [zr 0 0, zi (a 1)] f (fun r g => ∃ v, r = some (zi v) ∧ ZM 14 yX10_bound cX10_bound 2 (some .int) [zr 25 0, zi (a 1)] g (fun r2 g2 => (∃ v2, r2 = some (zi v2)) ∧ J g2))
def zCall_17 (f : zM) (a : Nat → Int32) (J : zM → Prop) : Prop := ZM 14 yX9_covers cX9_covers 2 (some .int) [zr 0 0, zi (a 1)] f (fun r g => ∃ v, r = some (zi v) ∧ ZM 14 yX10_covers cX10_covers 4 (some .int) [zr 25 0, zi (a 1)] g (fun r2 g2 => (∃ v2, r2 = some (zi v2)) ∧ J g2))
def zCall_18 (f : zM) (a : Nat → Int32) (J : zM → Prop) : Prop := ZM 14 yX9_lets cX9_lets 3 (some .int) [zr 0 0, zi (a 1)] f (fun r g => ∃ v, r = some (zi v) ∧ ZM 14 yX10_lets cX10_lets 2 (some .int) [zr 25 0, zi (a 1)] g (fun r2 g2 => (∃ v2, r2 = some (zi v2)) ∧ J g2))
def zCall_19 (f : zM) (a : Nat → Int32) (J : zM → Prop) : Prop := ZM 14 yX9_barred cX9_barred 3 (some .int) [zr 0 0, zi (a 1), zi (a 2)] f (fun r g => ∃ v, r = some (zi v) ∧ ZM 14 yX10_barred cX10_barred 3 (some .int) [zr 25 0, zi (a 1), zi (a 2)] g (fun r2 g2 => (∃ v2, r2 = some (zi v2)) ∧ J g2))
def zCall_20 (f : zM) (a : Nat → Int32) (J : zM → Prop) : Prop := ZM 14 yX9_send cX9_send 3 (some .int) [zr 0 0, zi (a 1)] f (fun r g => ∃ v, r = some (zi v) ∧ ZM 14 yX10_send cX10_send 4 (some .int) [zr 25 0, zi (a 1)] g (fun r2 g2 => (∃ v2, r2 = some (zi v2)) ∧ J g2))
def zCall_21 (f : zM) (a : Nat → Int32) (J : zM → Prop) : Prop := ZM 14 yX9_tried cX9_tried 1 (some .int) [zr 0 0] f (fun r g => ∃ v, r = some (zi v) ∧ ZM 14 yX10_tried cX10_tried 1 (some .int) [zr 25 0] g (fun r2 g2 => (∃ v2, r2 = some (zi v2)) ∧ J g2))
def zCall_22 (f : zM) (a : Nat → Int32) (J : zM → Prop) : Prop := ZM 14 yX9_road cX9_road 6 (some .int) [zr 0 0, zi (a 1), zi (a 2), zi (a 3)] f (fun r g => ∃ v, r = some (zi v) ∧ ZM 14 yX10_road cX10_road 8 (some .int) [zr 25 0, zi (a 1), zi (a 2), zi (a 3)] g (fun r2 g2 => (∃ v2, r2 = some (zi v2)) ∧ J g2))
def zCall_23 (f : zM) (a : Nat → Int32) (J : zM → Prop) : Prop := ZM 14 yX9_lands cX9_lands 1 (some .int) [zr 0 0] f (fun r g => ∃ v, r = some (zi v) ∧ ZM 14 yX10_lands cX10_lands 3 (some .int) [zr 25 0] g (fun r2 g2 => (∃ v2, r2 = some (zi v2)) ∧ J g2))
def zCall_24 (f : zM) (a : Nat → Int32) (J : zM → Prop) : Prop := ZM 14 yX9_safe cX9_safe 2 (some .int) [zr 0 0, zi (a 1)] f (fun r g => ∃ v, r = some (zi v) ∧ ZM 14 yX10_safe cX10_safe 6 (some .int) [zr 25 0, zi (a 1)] g (fun r2 g2 => (∃ v2, r2 = some (zi v2)) ∧ J g2))
def zCall_25 (f : zM) (a : Nat → Int32) (J : zM → Prop) : Prop := ZM 14 yX9_demand cX9_demand 4 (some .int) [zr 0 0, zi (a 1), zi (a 2), zi (a 3)] f (fun r g => ∃ v, r = some (zi v) ∧ ZM 14 yX10_demand cX10_demand 4 (some .int) [zr 25 0, zi (a 1), zi (a 2), zi (a 3)] g (fun r2 g2 => (∃ v2, r2 = some (zi v2)) ∧ J g2))
def zCall_26 (f : zM) (a : Nat → Int32) (J : zM → Prop) : Prop := ZM 14 yX9_ahead cX9_ahead 3 (some .int) [zr 0 0, zi (a 1)] f (fun r g => ∃ v, r = some (zi v) ∧ ZM 14 yX10_ahead cX10_ahead 5 (some .int) [zr 25 0, zi (a 1)] g (fun r2 g2 => (∃ v2, r2 = some (zi v2)) ∧ J g2))
def zCall_27 (f : zM) (a : Nat → Int32) (J : zM → Prop) : Prop := ZM 14 yX9_promises cX9_promises 6 (some .int) [zr 0 0, zi (a 1), zi (a 2)] f (fun r g => ∃ v, r = some (zi v) ∧ ZM 14 yX10_promises cX10_promises 6 (some .int) [zr 25 0, zi (a 1), zi (a 2)] g (fun r2 g2 => (∃ v2, r2 = some (zi v2)) ∧ J g2))
def zCall_28 (f : zM) (a : Nat → Int32) (J : zM → Prop) : Prop := ZM 14 yX9_mended cX9_mended 3 (some .int) [zr 0 0, zi (a 1), zi (a 2)] f (fun r g => ∃ v, r = some (zi v) ∧ ZM 14 yX10_mended cX10_mended 9 (some .int) [zr 25 0, zi (a 1), zi (a 2)] g (fun r2 g2 => r2 = some (zi v) ∧ J g2))
def zCall_29 (f : zM) (a : Nat → Int32) (J : zM → Prop) : Prop := ZM 14 yX9_part cX9_part 8 (some .int) [zr 0 0, zi (a 1), zi (a 2), zi (a 3)] f (fun r g => ∃ v, r = some (zi v) ∧ ZM 14 yX10_part cX10_part 7 (some .int) [zr 25 0, zi (a 1), zi (a 2), zi (a 3)] g (fun r2 g2 => (∃ v2, r2 = some (zi v2)) ∧ J g2))
def zCall_30 (f : zM) (a : Nat → Int32) (J : zM → Prop) : Prop := ZM 14 yX9_image cX9_image 1 (some .int) [zr 0 0] f (fun r g => ∃ v, r = some (zi v) ∧ ZM 14 yX10_image cX10_image 1 (some .int) [zr 25 0] g (fun r2 g2 => (∃ v2, r2 = some (zi v2)) ∧ J g2))
def zCall_31 (f : zM) (a : Nat → Int32) (J : zM → Prop) : Prop := ZM 14 yX9_restore cX9_restore 1 (some .int) [zr 0 0] f (fun r g => ∃ v, r = some (zi v) ∧ ZM 14 yX10_restore cX10_restore 1 (some .int) [zr 25 0] g (fun r2 g2 => (∃ v2, r2 = some (zi v2)) ∧ J g2))
def zCall_32 (f : zM) (a : Nat → Int32) (J : zM → Prop) : Prop := ZM 14 yX9_sheet cX9_sheet 4 (some .int) [zr 0 0, zi (a 1), zi (a 2), zi (a 3)] f (fun r g => ∃ v, r = some (zi v) ∧ ZM 14 yX10_sheet cX10_sheet 5 (some .int) [zr 25 0, zi (a 1), zi (a 2), zi (a 3)] g (fun r2 g2 => (∃ v2, r2 = some (zi v2)) ∧ J g2))
def zCall_33 (f : zM) (a : Nat → Int32) (J : zM → Prop) : Prop := ZM 14 yX9_drop cX9_drop 3 (some .int) [zr 0 0, zi (a 1)] f (fun r g => ∃ v, r = some (zi v) ∧ ZM 14 yX10_drop cX10_drop 2 (some .int) [zr 25 0, zi (a 1)] g (fun r2 g2 => (∃ v2, r2 = some (zi v2)) ∧ J g2))
def zCall_34 (f : zM) (a : Nat → Int32) (J : zM → Prop) : Prop := ZM 14 yX9_item cX9_item 7 (some .int) [zr 0 0, zi (a 1), zi (a 2), zi (a 3), zi (a 4)] f (fun r g => ∃ v, r = some (zi v) ∧ ZM 14 yX10_item cX10_item 6 (some .int) [zr 25 0, zi (a 1), zi (a 2), zi (a 3), zi (a 4)] g (fun r2 g2 => (∃ v2, r2 = some (zi v2)) ∧ J g2))
def zCall (k : Nat) (f : zM) (a : Nat → Int32) (J : zM → Prop) : Prop := match k with
  | 0 => zCall_0 f a J
  | 1 => zCall_1 f a J
  | 2 => zCall_2 f a J
  | 3 => zCall_3 f a J
  | 4 => zCall_4 f a J
  | 5 => zCall_5 f a J
  | 6 => zCall_6 f a J
  | 7 => zCall_7 f a J
  | 8 => zCall_8 f a J
  | 9 => zCall_9 f a J
  | 10 => zCall_10 f a J
  | 11 => zCall_11 f a J
  | 12 => zCall_12 f a J
  | 13 => zCall_13 f a J
  | 14 => zCall_14 f a J
  | 15 => zCall_15 f a J
  | 16 => zCall_16 f a J
  | 17 => zCall_17 f a J
  | 18 => zCall_18 f a J
  | 19 => zCall_19 f a J
  | 20 => zCall_20 f a J
  | 21 => zCall_21 f a J
  | 22 => zCall_22 f a J
  | 23 => zCall_23 f a J
  | 24 => zCall_24 f a J
  | 25 => zCall_25 f a J
  | 26 => zCall_26 f a J
  | 27 => zCall_27 f a J
  | 28 => zCall_28 f a J
  | 29 => zCall_29 f a J
  | 30 => zCall_30 f a J
  | 31 => zCall_31 f a J
  | 32 => zCall_32 f a J
  | 33 => zCall_33 f a J
  | _ => zCall_34 f a J
set_option maxRecDepth 100000 in
set_option maxHeartbeats 4000000 in
theorem law_0 {X : zX} {Ln b : Nat} {xs a : Nat → Int32} {f : zM} {J : zM → Prop} (C : zC X cL_law RL 15) (hn : znL X = 4) (hs : zXs X Ln xs) (hb : b + 7 ≤ Ln) (h31 : Ln < 2 ^ 31) (hT : zXst X) (ha : ∀ j, xs (b + j) = a j) (hx : zCall_0 f a J) (kk : ∀ g, J g → Z X 1501 [some (zr 44 0), some (zr 0 0), some (zr 25 0), some (zi (nI b))] [] g) : Z X 188 [some (zr 44 0), some (zr 0 0), some (zr 25 0), some (zi (nI b))] [] f := by
  unfold zCall_0 at hx
  refine z_aload_n (pc := 188) C dL_law_188 rfl ?_
  refine z_aload_n (pc := 189) C dL_law_189 rfl ?_
  refine z_iload_n (pc := 190) C dL_law_190 rfl ?_
  refine z_iconst (pc := 191) (v := 1) C dL_law_191 (by decide) ?_
  refine z_iadd (pc := 192) C dL_law_192 ?_
  refine z_sldk (pc := 193) (b := b) (k := 1) C hs (nI_add b 1) (by omega) (by omega) dL_law_193 ?_
  rw [ha 1]
  refine z_aload_n (pc := 194) C dL_law_194 rfl ?_
  refine z_iload_n (pc := 195) C dL_law_195 rfl ?_
  refine z_iconst (pc := 196) (v := 2) C dL_law_196 (by decide) ?_
  refine z_iadd (pc := 197) C dL_law_197 ?_
  refine z_sldk (pc := 198) (b := b) (k := 2) C hs (nI_add b 2) (by omega) (by omega) dL_law_198 ?_
  rw [ha 2]
  refine z_aload_n (pc := 199) C dL_law_199 rfl ?_
  refine z_iload_n (pc := 200) C dL_law_200 rfl ?_
  refine z_iconst (pc := 201) (v := 3) C dL_law_201 (by decide) ?_
  refine z_iadd (pc := 202) C dL_law_202 ?_
  refine z_sldk (pc := 203) (b := b) (k := 3) C hs (nI_add b 3) (by omega) (by omega) dL_law_203 ?_
  rw [ha 3]
  refine z_aload_n (pc := 204) C dL_law_204 rfl ?_
  refine z_iload_n (pc := 205) C dL_law_205 rfl ?_
  refine z_iconst (pc := 206) (v := 4) C dL_law_206 (by decide) ?_
  refine z_iadd (pc := 207) C dL_law_207 ?_
  refine z_sldk (pc := 208) (b := b) (k := 4) C hs (nI_add b 4) (by omega) (by omega) dL_law_208 ?_
  rw [ha 4]
  refine z_aload_n (pc := 209) C dL_law_209 rfl ?_
  refine z_iload_n (pc := 210) C dL_law_210 rfl ?_
  refine z_iconst (pc := 211) (v := 5) C dL_law_211 (by decide) ?_
  refine z_iadd (pc := 212) C dL_law_212 ?_
  refine z_sldk (pc := 213) (b := b) (k := 5) C hs (nI_add b 5) (by omega) (by omega) dL_law_213 ?_
  rw [ha 5]
  refine z_aload_n (pc := 214) C dL_law_214 rfl ?_
  refine z_iload_n (pc := 215) C dL_law_215 rfl ?_
  refine z_bipush (pc := 216) (v := 6) C dL_law_216 (by decide) ?_
  refine z_iadd (pc := 218) C dL_law_218 ?_
  refine z_sldk (pc := 219) (b := b) (k := 6) C hs (nI_add b 6) (by omega) (by omega) dL_law_219 ?_
  rw [ha 6]
  refine z_if_eq (pc := 220) 227 C dL_law_220 (by decide) (fun hz => ?_) (fun hz => ?_)
  · skip
    rw [show zbl (a 6) = 0 from if_pos hz] at hx
    refine z_iconst (pc := 227) (v := 0) C dL_law_227 (by decide) ?_
    refine z_callV (pc := 228) C zk_L_13 hx rfl rfl (by decide) rfl rfl (Nat.le_of_ble_eq_true rfl) dL_law_228 (fun r g q => ?_)
    obtain ⟨v, rfl, hm⟩ := q
    simp only [Option.toList, List.cons_append, List.nil_append]
    refine z_pop (pc := 231) C dL_law_231 ?_
    refine z_aload_n (pc := 232) C dL_law_232 rfl ?_
    refine z_aload_n (pc := 233) C dL_law_233 rfl ?_
    refine z_iload_n (pc := 234) C dL_law_234 rfl ?_
    refine z_iconst (pc := 235) (v := 1) C dL_law_235 (by decide) ?_
    refine z_iadd (pc := 236) C dL_law_236 ?_
    refine z_sldk (pc := 237) (b := b) (k := 1) C hs (nI_add b 1) (by omega) (by omega) dL_law_237 ?_
    rw [ha 1]
    refine z_aload_n (pc := 238) C dL_law_238 rfl ?_
    refine z_iload_n (pc := 239) C dL_law_239 rfl ?_
    refine z_iconst (pc := 240) (v := 2) C dL_law_240 (by decide) ?_
    refine z_iadd (pc := 241) C dL_law_241 ?_
    refine z_sldk (pc := 242) (b := b) (k := 2) C hs (nI_add b 2) (by omega) (by omega) dL_law_242 ?_
    rw [ha 2]
    refine z_aload_n (pc := 243) C dL_law_243 rfl ?_
    refine z_iload_n (pc := 244) C dL_law_244 rfl ?_
    refine z_iconst (pc := 245) (v := 3) C dL_law_245 (by decide) ?_
    refine z_iadd (pc := 246) C dL_law_246 ?_
    refine z_sldk (pc := 247) (b := b) (k := 3) C hs (nI_add b 3) (by omega) (by omega) dL_law_247 ?_
    rw [ha 3]
    refine z_aload_n (pc := 248) C dL_law_248 rfl ?_
    refine z_iload_n (pc := 249) C dL_law_249 rfl ?_
    refine z_iconst (pc := 250) (v := 4) C dL_law_250 (by decide) ?_
    refine z_iadd (pc := 251) C dL_law_251 ?_
    refine z_sldk (pc := 252) (b := b) (k := 4) C hs (nI_add b 4) (by omega) (by omega) dL_law_252 ?_
    rw [ha 4]
    refine z_aload_n (pc := 253) C dL_law_253 rfl ?_
    refine z_iload_n (pc := 254) C dL_law_254 rfl ?_
    refine z_iconst (pc := 255) (v := 5) C dL_law_255 (by decide) ?_
    refine z_iadd (pc := 256) C dL_law_256 ?_
    refine z_sldk (pc := 257) (b := b) (k := 5) C hs (nI_add b 5) (by omega) (by omega) dL_law_257 ?_
    rw [ha 5]
    refine z_aload_n (pc := 258) C dL_law_258 rfl ?_
    refine z_iload_n (pc := 259) C dL_law_259 rfl ?_
    refine z_bipush (pc := 260) (v := 6) C dL_law_260 (by decide) ?_
    refine z_iadd (pc := 262) C dL_law_262 ?_
    refine z_sldk (pc := 263) (b := b) (k := 6) C hs (nI_add b 6) (by omega) (by omega) dL_law_263 ?_
    rw [ha 6]
    refine z_if_eq (pc := 264) 271 C dL_law_264 (by decide) (fun _ => ?_) (fun h => absurd hz h)
    refine z_iconst (pc := 271) (v := 0) C dL_law_271 (by decide) ?_
    refine z_callV (pc := 272) C zk_L_17 hm rfl rfl (by decide) rfl rfl (Nat.le_of_ble_eq_true rfl) dL_law_272 (fun r2 g2 q2 => ?_)
    obtain ⟨⟨v2, rfl⟩, hJ⟩ := q2
    simp only [Option.toList, List.cons_append, List.nil_append]
    refine z_pop (pc := 275) C dL_law_275 ?_
    refine z_goto (pc := 276) 1501 C dL_law_276 (by decide) ?_
    exact kk _ hJ
  · skip
    rw [show zbl (a 6) = 1 from if_neg hz] at hx
    refine z_iconst (pc := 223) (v := 1) C dL_law_223 (by decide) ?_
    refine z_goto (pc := 224) 228 C dL_law_224 (by decide) ?_
    refine z_callV (pc := 228) C zk_L_13 hx rfl rfl (by decide) rfl rfl (Nat.le_of_ble_eq_true rfl) dL_law_228 (fun r g q => ?_)
    obtain ⟨v, rfl, hm⟩ := q
    simp only [Option.toList, List.cons_append, List.nil_append]
    refine z_pop (pc := 231) C dL_law_231 ?_
    refine z_aload_n (pc := 232) C dL_law_232 rfl ?_
    refine z_aload_n (pc := 233) C dL_law_233 rfl ?_
    refine z_iload_n (pc := 234) C dL_law_234 rfl ?_
    refine z_iconst (pc := 235) (v := 1) C dL_law_235 (by decide) ?_
    refine z_iadd (pc := 236) C dL_law_236 ?_
    refine z_sldk (pc := 237) (b := b) (k := 1) C hs (nI_add b 1) (by omega) (by omega) dL_law_237 ?_
    rw [ha 1]
    refine z_aload_n (pc := 238) C dL_law_238 rfl ?_
    refine z_iload_n (pc := 239) C dL_law_239 rfl ?_
    refine z_iconst (pc := 240) (v := 2) C dL_law_240 (by decide) ?_
    refine z_iadd (pc := 241) C dL_law_241 ?_
    refine z_sldk (pc := 242) (b := b) (k := 2) C hs (nI_add b 2) (by omega) (by omega) dL_law_242 ?_
    rw [ha 2]
    refine z_aload_n (pc := 243) C dL_law_243 rfl ?_
    refine z_iload_n (pc := 244) C dL_law_244 rfl ?_
    refine z_iconst (pc := 245) (v := 3) C dL_law_245 (by decide) ?_
    refine z_iadd (pc := 246) C dL_law_246 ?_
    refine z_sldk (pc := 247) (b := b) (k := 3) C hs (nI_add b 3) (by omega) (by omega) dL_law_247 ?_
    rw [ha 3]
    refine z_aload_n (pc := 248) C dL_law_248 rfl ?_
    refine z_iload_n (pc := 249) C dL_law_249 rfl ?_
    refine z_iconst (pc := 250) (v := 4) C dL_law_250 (by decide) ?_
    refine z_iadd (pc := 251) C dL_law_251 ?_
    refine z_sldk (pc := 252) (b := b) (k := 4) C hs (nI_add b 4) (by omega) (by omega) dL_law_252 ?_
    rw [ha 4]
    refine z_aload_n (pc := 253) C dL_law_253 rfl ?_
    refine z_iload_n (pc := 254) C dL_law_254 rfl ?_
    refine z_iconst (pc := 255) (v := 5) C dL_law_255 (by decide) ?_
    refine z_iadd (pc := 256) C dL_law_256 ?_
    refine z_sldk (pc := 257) (b := b) (k := 5) C hs (nI_add b 5) (by omega) (by omega) dL_law_257 ?_
    rw [ha 5]
    refine z_aload_n (pc := 258) C dL_law_258 rfl ?_
    refine z_iload_n (pc := 259) C dL_law_259 rfl ?_
    refine z_bipush (pc := 260) (v := 6) C dL_law_260 (by decide) ?_
    refine z_iadd (pc := 262) C dL_law_262 ?_
    refine z_sldk (pc := 263) (b := b) (k := 6) C hs (nI_add b 6) (by omega) (by omega) dL_law_263 ?_
    rw [ha 6]
    refine z_if_eq (pc := 264) 271 C dL_law_264 (by decide) (fun h => absurd h hz) (fun _ => ?_)
    refine z_iconst (pc := 267) (v := 1) C dL_law_267 (by decide) ?_
    refine z_goto (pc := 268) 272 C dL_law_268 (by decide) ?_
    refine z_callV (pc := 272) C zk_L_17 hm rfl rfl (by decide) rfl rfl (Nat.le_of_ble_eq_true rfl) dL_law_272 (fun r2 g2 q2 => ?_)
    obtain ⟨⟨v2, rfl⟩, hJ⟩ := q2
    simp only [Option.toList, List.cons_append, List.nil_append]
    refine z_pop (pc := 275) C dL_law_275 ?_
    refine z_goto (pc := 276) 1501 C dL_law_276 (by decide) ?_
    exact kk _ hJ
set_option maxRecDepth 100000 in
set_option maxHeartbeats 4000000 in
theorem law_1 {X : zX} {Ln b : Nat} {xs a : Nat → Int32} {f : zM} {J : zM → Prop} (C : zC X cL_law RL 15) (hn : znL X = 4) (hs : zXs X Ln xs) (hb : b + 7 ≤ Ln) (h31 : Ln < 2 ^ 31) (hT : zXst X) (ha : ∀ j, xs (b + j) = a j) (hx : zCall_1 f a J) (kk : ∀ g, J g → Z X 1501 [some (zr 44 0), some (zr 0 0), some (zr 25 0), some (zi (nI b))] [] g) : Z X 279 [some (zr 44 0), some (zr 0 0), some (zr 25 0), some (zi (nI b))] [] f := by
  unfold zCall_1 at hx
  refine z_aload_n (pc := 279) C dL_law_279 rfl ?_
  refine z_aload_n (pc := 280) C dL_law_280 rfl ?_
  refine z_iload_n (pc := 281) C dL_law_281 rfl ?_
  refine z_iconst (pc := 282) (v := 1) C dL_law_282 (by decide) ?_
  refine z_iadd (pc := 283) C dL_law_283 ?_
  refine z_sldk (pc := 284) (b := b) (k := 1) C hs (nI_add b 1) (by omega) (by omega) dL_law_284 ?_
  rw [ha 1]
  refine z_aload_n (pc := 285) C dL_law_285 rfl ?_
  refine z_iload_n (pc := 286) C dL_law_286 rfl ?_
  refine z_iconst (pc := 287) (v := 2) C dL_law_287 (by decide) ?_
  refine z_iadd (pc := 288) C dL_law_288 ?_
  refine z_sldk (pc := 289) (b := b) (k := 2) C hs (nI_add b 2) (by omega) (by omega) dL_law_289 ?_
  rw [ha 2]
  refine z_aload_n (pc := 290) C dL_law_290 rfl ?_
  refine z_iload_n (pc := 291) C dL_law_291 rfl ?_
  refine z_iconst (pc := 292) (v := 3) C dL_law_292 (by decide) ?_
  refine z_iadd (pc := 293) C dL_law_293 ?_
  refine z_sldk (pc := 294) (b := b) (k := 3) C hs (nI_add b 3) (by omega) (by omega) dL_law_294 ?_
  rw [ha 3]
  refine z_aload_n (pc := 295) C dL_law_295 rfl ?_
  refine z_iload_n (pc := 296) C dL_law_296 rfl ?_
  refine z_iconst (pc := 297) (v := 4) C dL_law_297 (by decide) ?_
  refine z_iadd (pc := 298) C dL_law_298 ?_
  refine z_sldk (pc := 299) (b := b) (k := 4) C hs (nI_add b 4) (by omega) (by omega) dL_law_299 ?_
  rw [ha 4]
  refine z_callV (pc := 300) C zk_L_18 hx rfl rfl (by decide) rfl rfl (Nat.le_of_ble_eq_true rfl) dL_law_300 (fun r g q => ?_)
  obtain ⟨v, rfl, hm⟩ := q
  simp only [Option.toList, List.cons_append, List.nil_append]
  refine z_pop (pc := 303) C dL_law_303 ?_
  refine z_aload_n (pc := 304) C dL_law_304 rfl ?_
  refine z_aload_n (pc := 305) C dL_law_305 rfl ?_
  refine z_iload_n (pc := 306) C dL_law_306 rfl ?_
  refine z_iconst (pc := 307) (v := 1) C dL_law_307 (by decide) ?_
  refine z_iadd (pc := 308) C dL_law_308 ?_
  refine z_sldk (pc := 309) (b := b) (k := 1) C hs (nI_add b 1) (by omega) (by omega) dL_law_309 ?_
  rw [ha 1]
  refine z_aload_n (pc := 310) C dL_law_310 rfl ?_
  refine z_iload_n (pc := 311) C dL_law_311 rfl ?_
  refine z_iconst (pc := 312) (v := 2) C dL_law_312 (by decide) ?_
  refine z_iadd (pc := 313) C dL_law_313 ?_
  refine z_sldk (pc := 314) (b := b) (k := 2) C hs (nI_add b 2) (by omega) (by omega) dL_law_314 ?_
  rw [ha 2]
  refine z_aload_n (pc := 315) C dL_law_315 rfl ?_
  refine z_iload_n (pc := 316) C dL_law_316 rfl ?_
  refine z_iconst (pc := 317) (v := 3) C dL_law_317 (by decide) ?_
  refine z_iadd (pc := 318) C dL_law_318 ?_
  refine z_sldk (pc := 319) (b := b) (k := 3) C hs (nI_add b 3) (by omega) (by omega) dL_law_319 ?_
  rw [ha 3]
  refine z_aload_n (pc := 320) C dL_law_320 rfl ?_
  refine z_iload_n (pc := 321) C dL_law_321 rfl ?_
  refine z_iconst (pc := 322) (v := 4) C dL_law_322 (by decide) ?_
  refine z_iadd (pc := 323) C dL_law_323 ?_
  refine z_sldk (pc := 324) (b := b) (k := 4) C hs (nI_add b 4) (by omega) (by omega) dL_law_324 ?_
  rw [ha 4]
  refine z_callV (pc := 325) C zk_L_22 hm rfl rfl (by decide) rfl rfl (Nat.le_of_ble_eq_true rfl) dL_law_325 (fun r2 g2 q2 => ?_)
  obtain ⟨⟨v2, rfl⟩, hJ⟩ := q2
  simp only [Option.toList, List.cons_append, List.nil_append]
  refine z_pop (pc := 328) C dL_law_328 ?_
  refine z_goto (pc := 329) 1501 C dL_law_329 (by decide) ?_
  exact kk _ hJ
set_option maxRecDepth 100000 in
set_option maxHeartbeats 4000000 in
theorem law_2 {X : zX} {Ln b : Nat} {xs a : Nat → Int32} {f : zM} {J : zM → Prop} (C : zC X cL_law RL 15) (hn : znL X = 4) (hs : zXs X Ln xs) (hb : b + 7 ≤ Ln) (h31 : Ln < 2 ^ 31) (hT : zXst X) (ha : ∀ j, xs (b + j) = a j) (hx : zCall_2 f a J) (kk : ∀ g, J g → Z X 1501 [some (zr 44 0), some (zr 0 0), some (zr 25 0), some (zi (nI b))] [] g) : Z X 332 [some (zr 44 0), some (zr 0 0), some (zr 25 0), some (zi (nI b))] [] f := by
  unfold zCall_2 at hx
  refine z_aload_n (pc := 332) C dL_law_332 rfl ?_
  refine z_aload_n (pc := 333) C dL_law_333 rfl ?_
  refine z_iload_n (pc := 334) C dL_law_334 rfl ?_
  refine z_iconst (pc := 335) (v := 1) C dL_law_335 (by decide) ?_
  refine z_iadd (pc := 336) C dL_law_336 ?_
  refine z_sldk (pc := 337) (b := b) (k := 1) C hs (nI_add b 1) (by omega) (by omega) dL_law_337 ?_
  rw [ha 1]
  refine z_aload_n (pc := 338) C dL_law_338 rfl ?_
  refine z_iload_n (pc := 339) C dL_law_339 rfl ?_
  refine z_iconst (pc := 340) (v := 2) C dL_law_340 (by decide) ?_
  refine z_iadd (pc := 341) C dL_law_341 ?_
  refine z_sldk (pc := 342) (b := b) (k := 2) C hs (nI_add b 2) (by omega) (by omega) dL_law_342 ?_
  rw [ha 2]
  refine z_aload_n (pc := 343) C dL_law_343 rfl ?_
  refine z_iload_n (pc := 344) C dL_law_344 rfl ?_
  refine z_iconst (pc := 345) (v := 3) C dL_law_345 (by decide) ?_
  refine z_iadd (pc := 346) C dL_law_346 ?_
  refine z_sldk (pc := 347) (b := b) (k := 3) C hs (nI_add b 3) (by omega) (by omega) dL_law_347 ?_
  rw [ha 3]
  refine z_aload_n (pc := 348) C dL_law_348 rfl ?_
  refine z_iload_n (pc := 349) C dL_law_349 rfl ?_
  refine z_iconst (pc := 350) (v := 4) C dL_law_350 (by decide) ?_
  refine z_iadd (pc := 351) C dL_law_351 ?_
  refine z_sldk (pc := 352) (b := b) (k := 4) C hs (nI_add b 4) (by omega) (by omega) dL_law_352 ?_
  rw [ha 4]
  refine z_aload_n (pc := 353) C dL_law_353 rfl ?_
  refine z_iload_n (pc := 354) C dL_law_354 rfl ?_
  refine z_iconst (pc := 355) (v := 5) C dL_law_355 (by decide) ?_
  refine z_iadd (pc := 356) C dL_law_356 ?_
  refine z_sldk (pc := 357) (b := b) (k := 5) C hs (nI_add b 5) (by omega) (by omega) dL_law_357 ?_
  rw [ha 5]
  refine z_aload_n (pc := 358) C dL_law_358 rfl ?_
  refine z_iload_n (pc := 359) C dL_law_359 rfl ?_
  refine z_bipush (pc := 360) (v := 6) C dL_law_360 (by decide) ?_
  refine z_iadd (pc := 362) C dL_law_362 ?_
  refine z_sldk (pc := 363) (b := b) (k := 6) C hs (nI_add b 6) (by omega) (by omega) dL_law_363 ?_
  rw [ha 6]
  refine z_callV (pc := 364) C zk_L_23 hx rfl rfl (by decide) rfl rfl (Nat.le_of_ble_eq_true rfl) dL_law_364 (fun r g q => ?_)
  obtain ⟨v, rfl, hm⟩ := q
  simp only [Option.toList, List.cons_append, List.nil_append]
  refine z_pop (pc := 367) C dL_law_367 ?_
  refine z_aload_n (pc := 368) C dL_law_368 rfl ?_
  refine z_aload_n (pc := 369) C dL_law_369 rfl ?_
  refine z_iload_n (pc := 370) C dL_law_370 rfl ?_
  refine z_iconst (pc := 371) (v := 1) C dL_law_371 (by decide) ?_
  refine z_iadd (pc := 372) C dL_law_372 ?_
  refine z_sldk (pc := 373) (b := b) (k := 1) C hs (nI_add b 1) (by omega) (by omega) dL_law_373 ?_
  rw [ha 1]
  refine z_aload_n (pc := 374) C dL_law_374 rfl ?_
  refine z_iload_n (pc := 375) C dL_law_375 rfl ?_
  refine z_iconst (pc := 376) (v := 2) C dL_law_376 (by decide) ?_
  refine z_iadd (pc := 377) C dL_law_377 ?_
  refine z_sldk (pc := 378) (b := b) (k := 2) C hs (nI_add b 2) (by omega) (by omega) dL_law_378 ?_
  rw [ha 2]
  refine z_aload_n (pc := 379) C dL_law_379 rfl ?_
  refine z_iload_n (pc := 380) C dL_law_380 rfl ?_
  refine z_iconst (pc := 381) (v := 3) C dL_law_381 (by decide) ?_
  refine z_iadd (pc := 382) C dL_law_382 ?_
  refine z_sldk (pc := 383) (b := b) (k := 3) C hs (nI_add b 3) (by omega) (by omega) dL_law_383 ?_
  rw [ha 3]
  refine z_aload_n (pc := 384) C dL_law_384 rfl ?_
  refine z_iload_n (pc := 385) C dL_law_385 rfl ?_
  refine z_iconst (pc := 386) (v := 4) C dL_law_386 (by decide) ?_
  refine z_iadd (pc := 387) C dL_law_387 ?_
  refine z_sldk (pc := 388) (b := b) (k := 4) C hs (nI_add b 4) (by omega) (by omega) dL_law_388 ?_
  rw [ha 4]
  refine z_aload_n (pc := 389) C dL_law_389 rfl ?_
  refine z_iload_n (pc := 390) C dL_law_390 rfl ?_
  refine z_iconst (pc := 391) (v := 5) C dL_law_391 (by decide) ?_
  refine z_iadd (pc := 392) C dL_law_392 ?_
  refine z_sldk (pc := 393) (b := b) (k := 5) C hs (nI_add b 5) (by omega) (by omega) dL_law_393 ?_
  rw [ha 5]
  refine z_aload_n (pc := 394) C dL_law_394 rfl ?_
  refine z_iload_n (pc := 395) C dL_law_395 rfl ?_
  refine z_bipush (pc := 396) (v := 6) C dL_law_396 (by decide) ?_
  refine z_iadd (pc := 398) C dL_law_398 ?_
  refine z_sldk (pc := 399) (b := b) (k := 6) C hs (nI_add b 6) (by omega) (by omega) dL_law_399 ?_
  rw [ha 6]
  refine z_callV (pc := 400) C zk_L_27 hm rfl rfl (by decide) rfl rfl (Nat.le_of_ble_eq_true rfl) dL_law_400 (fun r2 g2 q2 => ?_)
  obtain ⟨⟨v2, rfl⟩, hJ⟩ := q2
  simp only [Option.toList, List.cons_append, List.nil_append]
  refine z_pop (pc := 403) C dL_law_403 ?_
  refine z_goto (pc := 404) 1501 C dL_law_404 (by decide) ?_
  exact kk _ hJ
set_option maxRecDepth 100000 in
set_option maxHeartbeats 4000000 in
theorem law_3 {X : zX} {Ln b : Nat} {xs a : Nat → Int32} {f : zM} {J : zM → Prop} (C : zC X cL_law RL 15) (hn : znL X = 4) (hs : zXs X Ln xs) (hb : b + 7 ≤ Ln) (h31 : Ln < 2 ^ 31) (hT : zXst X) (ha : ∀ j, xs (b + j) = a j) (hx : zCall_3 f a J) (kk : ∀ g, J g → Z X 1501 [some (zr 44 0), some (zr 0 0), some (zr 25 0), some (zi (nI b))] [] g) : Z X 407 [some (zr 44 0), some (zr 0 0), some (zr 25 0), some (zi (nI b))] [] f := by
  unfold zCall_3 at hx
  refine z_aload_n (pc := 407) C dL_law_407 rfl ?_
  refine z_aload_n (pc := 408) C dL_law_408 rfl ?_
  refine z_iload_n (pc := 409) C dL_law_409 rfl ?_
  refine z_iconst (pc := 410) (v := 1) C dL_law_410 (by decide) ?_
  refine z_iadd (pc := 411) C dL_law_411 ?_
  refine z_sldk (pc := 412) (b := b) (k := 1) C hs (nI_add b 1) (by omega) (by omega) dL_law_412 ?_
  rw [ha 1]
  refine z_aload_n (pc := 413) C dL_law_413 rfl ?_
  refine z_iload_n (pc := 414) C dL_law_414 rfl ?_
  refine z_iconst (pc := 415) (v := 2) C dL_law_415 (by decide) ?_
  refine z_iadd (pc := 416) C dL_law_416 ?_
  refine z_sldk (pc := 417) (b := b) (k := 2) C hs (nI_add b 2) (by omega) (by omega) dL_law_417 ?_
  rw [ha 2]
  refine z_aload_n (pc := 418) C dL_law_418 rfl ?_
  refine z_iload_n (pc := 419) C dL_law_419 rfl ?_
  refine z_iconst (pc := 420) (v := 3) C dL_law_420 (by decide) ?_
  refine z_iadd (pc := 421) C dL_law_421 ?_
  refine z_sldk (pc := 422) (b := b) (k := 3) C hs (nI_add b 3) (by omega) (by omega) dL_law_422 ?_
  rw [ha 3]
  refine z_aload_n (pc := 423) C dL_law_423 rfl ?_
  refine z_iload_n (pc := 424) C dL_law_424 rfl ?_
  refine z_iconst (pc := 425) (v := 4) C dL_law_425 (by decide) ?_
  refine z_iadd (pc := 426) C dL_law_426 ?_
  refine z_sldk (pc := 427) (b := b) (k := 4) C hs (nI_add b 4) (by omega) (by omega) dL_law_427 ?_
  rw [ha 4]
  refine z_aload_n (pc := 428) C dL_law_428 rfl ?_
  refine z_iload_n (pc := 429) C dL_law_429 rfl ?_
  refine z_iconst (pc := 430) (v := 5) C dL_law_430 (by decide) ?_
  refine z_iadd (pc := 431) C dL_law_431 ?_
  refine z_sldk (pc := 432) (b := b) (k := 5) C hs (nI_add b 5) (by omega) (by omega) dL_law_432 ?_
  rw [ha 5]
  refine z_aload_n (pc := 433) C dL_law_433 rfl ?_
  refine z_iload_n (pc := 434) C dL_law_434 rfl ?_
  refine z_bipush (pc := 435) (v := 6) C dL_law_435 (by decide) ?_
  refine z_iadd (pc := 437) C dL_law_437 ?_
  refine z_sldk (pc := 438) (b := b) (k := 6) C hs (nI_add b 6) (by omega) (by omega) dL_law_438 ?_
  rw [ha 6]
  refine z_callV (pc := 439) C zk_L_28 hx rfl rfl (by decide) rfl rfl (Nat.le_of_ble_eq_true rfl) dL_law_439 (fun r g q => ?_)
  obtain ⟨v, rfl, hm⟩ := q
  simp only [Option.toList, List.cons_append, List.nil_append]
  refine z_pop (pc := 442) C dL_law_442 ?_
  refine z_aload_n (pc := 443) C dL_law_443 rfl ?_
  refine z_aload_n (pc := 444) C dL_law_444 rfl ?_
  refine z_iload_n (pc := 445) C dL_law_445 rfl ?_
  refine z_iconst (pc := 446) (v := 1) C dL_law_446 (by decide) ?_
  refine z_iadd (pc := 447) C dL_law_447 ?_
  refine z_sldk (pc := 448) (b := b) (k := 1) C hs (nI_add b 1) (by omega) (by omega) dL_law_448 ?_
  rw [ha 1]
  refine z_aload_n (pc := 449) C dL_law_449 rfl ?_
  refine z_iload_n (pc := 450) C dL_law_450 rfl ?_
  refine z_iconst (pc := 451) (v := 2) C dL_law_451 (by decide) ?_
  refine z_iadd (pc := 452) C dL_law_452 ?_
  refine z_sldk (pc := 453) (b := b) (k := 2) C hs (nI_add b 2) (by omega) (by omega) dL_law_453 ?_
  rw [ha 2]
  refine z_aload_n (pc := 454) C dL_law_454 rfl ?_
  refine z_iload_n (pc := 455) C dL_law_455 rfl ?_
  refine z_iconst (pc := 456) (v := 3) C dL_law_456 (by decide) ?_
  refine z_iadd (pc := 457) C dL_law_457 ?_
  refine z_sldk (pc := 458) (b := b) (k := 3) C hs (nI_add b 3) (by omega) (by omega) dL_law_458 ?_
  rw [ha 3]
  refine z_aload_n (pc := 459) C dL_law_459 rfl ?_
  refine z_iload_n (pc := 460) C dL_law_460 rfl ?_
  refine z_iconst (pc := 461) (v := 4) C dL_law_461 (by decide) ?_
  refine z_iadd (pc := 462) C dL_law_462 ?_
  refine z_sldk (pc := 463) (b := b) (k := 4) C hs (nI_add b 4) (by omega) (by omega) dL_law_463 ?_
  rw [ha 4]
  refine z_aload_n (pc := 464) C dL_law_464 rfl ?_
  refine z_iload_n (pc := 465) C dL_law_465 rfl ?_
  refine z_iconst (pc := 466) (v := 5) C dL_law_466 (by decide) ?_
  refine z_iadd (pc := 467) C dL_law_467 ?_
  refine z_sldk (pc := 468) (b := b) (k := 5) C hs (nI_add b 5) (by omega) (by omega) dL_law_468 ?_
  rw [ha 5]
  refine z_aload_n (pc := 469) C dL_law_469 rfl ?_
  refine z_iload_n (pc := 470) C dL_law_470 rfl ?_
  refine z_bipush (pc := 471) (v := 6) C dL_law_471 (by decide) ?_
  refine z_iadd (pc := 473) C dL_law_473 ?_
  refine z_sldk (pc := 474) (b := b) (k := 6) C hs (nI_add b 6) (by omega) (by omega) dL_law_474 ?_
  rw [ha 6]
  refine z_callV (pc := 475) C zk_L_31 hm rfl rfl (by decide) rfl rfl (Nat.le_of_ble_eq_true rfl) dL_law_475 (fun r2 g2 q2 => ?_)
  obtain ⟨⟨v2, rfl⟩, hJ⟩ := q2
  simp only [Option.toList, List.cons_append, List.nil_append]
  refine z_pop (pc := 478) C dL_law_478 ?_
  refine z_goto (pc := 479) 1501 C dL_law_479 (by decide) ?_
  exact kk _ hJ
set_option maxRecDepth 100000 in
set_option maxHeartbeats 4000000 in
theorem law_4 {X : zX} {Ln b : Nat} {xs a : Nat → Int32} {f : zM} {J : zM → Prop} (C : zC X cL_law RL 15) (hn : znL X = 4) (hs : zXs X Ln xs) (hb : b + 7 ≤ Ln) (h31 : Ln < 2 ^ 31) (hT : zXst X) (ha : ∀ j, xs (b + j) = a j) (hx : zCall_4 f a J) (kk : ∀ g, J g → Z X 1501 [some (zr 44 0), some (zr 0 0), some (zr 25 0), some (zi (nI b))] [] g) : Z X 482 [some (zr 44 0), some (zr 0 0), some (zr 25 0), some (zi (nI b))] [] f := by
  unfold zCall_4 at hx
  refine z_aload_n (pc := 482) C dL_law_482 rfl ?_
  refine z_aload_n (pc := 483) C dL_law_483 rfl ?_
  refine z_iload_n (pc := 484) C dL_law_484 rfl ?_
  refine z_iconst (pc := 485) (v := 1) C dL_law_485 (by decide) ?_
  refine z_iadd (pc := 486) C dL_law_486 ?_
  refine z_sldk (pc := 487) (b := b) (k := 1) C hs (nI_add b 1) (by omega) (by omega) dL_law_487 ?_
  rw [ha 1]
  refine z_aload_n (pc := 488) C dL_law_488 rfl ?_
  refine z_iload_n (pc := 489) C dL_law_489 rfl ?_
  refine z_iconst (pc := 490) (v := 2) C dL_law_490 (by decide) ?_
  refine z_iadd (pc := 491) C dL_law_491 ?_
  refine z_sldk (pc := 492) (b := b) (k := 2) C hs (nI_add b 2) (by omega) (by omega) dL_law_492 ?_
  rw [ha 2]
  refine z_aload_n (pc := 493) C dL_law_493 rfl ?_
  refine z_iload_n (pc := 494) C dL_law_494 rfl ?_
  refine z_iconst (pc := 495) (v := 3) C dL_law_495 (by decide) ?_
  refine z_iadd (pc := 496) C dL_law_496 ?_
  refine z_sldk (pc := 497) (b := b) (k := 3) C hs (nI_add b 3) (by omega) (by omega) dL_law_497 ?_
  rw [ha 3]
  refine z_aload_n (pc := 498) C dL_law_498 rfl ?_
  refine z_iload_n (pc := 499) C dL_law_499 rfl ?_
  refine z_iconst (pc := 500) (v := 4) C dL_law_500 (by decide) ?_
  refine z_iadd (pc := 501) C dL_law_501 ?_
  refine z_sldk (pc := 502) (b := b) (k := 4) C hs (nI_add b 4) (by omega) (by omega) dL_law_502 ?_
  rw [ha 4]
  refine z_aload_n (pc := 503) C dL_law_503 rfl ?_
  refine z_iload_n (pc := 504) C dL_law_504 rfl ?_
  refine z_iconst (pc := 505) (v := 5) C dL_law_505 (by decide) ?_
  refine z_iadd (pc := 506) C dL_law_506 ?_
  refine z_sldk (pc := 507) (b := b) (k := 5) C hs (nI_add b 5) (by omega) (by omega) dL_law_507 ?_
  rw [ha 5]
  refine z_callV (pc := 508) C zk_L_32 hx rfl rfl (by decide) rfl rfl (Nat.le_of_ble_eq_true rfl) dL_law_508 (fun r g q => ?_)
  obtain ⟨v, rfl, hm⟩ := q
  simp only [Option.toList, List.cons_append, List.nil_append]
  refine z_pop (pc := 511) C dL_law_511 ?_
  refine z_aload_n (pc := 512) C dL_law_512 rfl ?_
  refine z_aload_n (pc := 513) C dL_law_513 rfl ?_
  refine z_iload_n (pc := 514) C dL_law_514 rfl ?_
  refine z_iconst (pc := 515) (v := 1) C dL_law_515 (by decide) ?_
  refine z_iadd (pc := 516) C dL_law_516 ?_
  refine z_sldk (pc := 517) (b := b) (k := 1) C hs (nI_add b 1) (by omega) (by omega) dL_law_517 ?_
  rw [ha 1]
  refine z_aload_n (pc := 518) C dL_law_518 rfl ?_
  refine z_iload_n (pc := 519) C dL_law_519 rfl ?_
  refine z_iconst (pc := 520) (v := 2) C dL_law_520 (by decide) ?_
  refine z_iadd (pc := 521) C dL_law_521 ?_
  refine z_sldk (pc := 522) (b := b) (k := 2) C hs (nI_add b 2) (by omega) (by omega) dL_law_522 ?_
  rw [ha 2]
  refine z_aload_n (pc := 523) C dL_law_523 rfl ?_
  refine z_iload_n (pc := 524) C dL_law_524 rfl ?_
  refine z_iconst (pc := 525) (v := 3) C dL_law_525 (by decide) ?_
  refine z_iadd (pc := 526) C dL_law_526 ?_
  refine z_sldk (pc := 527) (b := b) (k := 3) C hs (nI_add b 3) (by omega) (by omega) dL_law_527 ?_
  rw [ha 3]
  refine z_aload_n (pc := 528) C dL_law_528 rfl ?_
  refine z_iload_n (pc := 529) C dL_law_529 rfl ?_
  refine z_iconst (pc := 530) (v := 4) C dL_law_530 (by decide) ?_
  refine z_iadd (pc := 531) C dL_law_531 ?_
  refine z_sldk (pc := 532) (b := b) (k := 4) C hs (nI_add b 4) (by omega) (by omega) dL_law_532 ?_
  rw [ha 4]
  refine z_aload_n (pc := 533) C dL_law_533 rfl ?_
  refine z_iload_n (pc := 534) C dL_law_534 rfl ?_
  refine z_iconst (pc := 535) (v := 5) C dL_law_535 (by decide) ?_
  refine z_iadd (pc := 536) C dL_law_536 ?_
  refine z_sldk (pc := 537) (b := b) (k := 5) C hs (nI_add b 5) (by omega) (by omega) dL_law_537 ?_
  rw [ha 5]
  refine z_callV (pc := 538) C zk_L_36 hm rfl rfl (by decide) rfl rfl (Nat.le_of_ble_eq_true rfl) dL_law_538 (fun r2 g2 q2 => ?_)
  obtain ⟨⟨v2, rfl⟩, hJ⟩ := q2
  simp only [Option.toList, List.cons_append, List.nil_append]
  refine z_pop (pc := 541) C dL_law_541 ?_
  refine z_goto (pc := 542) 1501 C dL_law_542 (by decide) ?_
  exact kk _ hJ
set_option maxRecDepth 100000 in
set_option maxHeartbeats 4000000 in
theorem law_5 {X : zX} {Ln b : Nat} {xs a : Nat → Int32} {f : zM} {J : zM → Prop} (C : zC X cL_law RL 15) (hn : znL X = 4) (hs : zXs X Ln xs) (hb : b + 7 ≤ Ln) (h31 : Ln < 2 ^ 31) (hT : zXst X) (ha : ∀ j, xs (b + j) = a j) (hx : zCall_5 f a J) (kk : ∀ g, J g → Z X 1501 [some (zr 44 0), some (zr 0 0), some (zr 25 0), some (zi (nI b))] [] g) : Z X 545 [some (zr 44 0), some (zr 0 0), some (zr 25 0), some (zi (nI b))] [] f := by
  unfold zCall_5 at hx
  refine z_aload_n (pc := 545) C dL_law_545 rfl ?_
  refine z_aload_n (pc := 546) C dL_law_546 rfl ?_
  refine z_iload_n (pc := 547) C dL_law_547 rfl ?_
  refine z_iconst (pc := 548) (v := 1) C dL_law_548 (by decide) ?_
  refine z_iadd (pc := 549) C dL_law_549 ?_
  refine z_sldk (pc := 550) (b := b) (k := 1) C hs (nI_add b 1) (by omega) (by omega) dL_law_550 ?_
  rw [ha 1]
  refine z_i2l (pc := 551) C dL_law_551 ?_
  refine z_bipush (pc := 552) (v := 32) C dL_law_552 (by decide) ?_
  refine z_lshl (pc := 554) C dL_law_554 ?_
  refine z_aload_n (pc := 555) C dL_law_555 rfl ?_
  refine z_iload_n (pc := 556) C dL_law_556 rfl ?_
  refine z_iconst (pc := 557) (v := 2) C dL_law_557 (by decide) ?_
  refine z_iadd (pc := 558) C dL_law_558 ?_
  refine z_sldk (pc := 559) (b := b) (k := 2) C hs (nI_add b 2) (by omega) (by omega) dL_law_559 ?_
  rw [ha 2]
  refine z_i2l (pc := 560) C dL_law_560 ?_
  refine z_ldc2 (pc := 561) C zw_1432 dL_law_561 ?_
  refine z_land (pc := 564) C dL_law_564 ?_
  refine z_lor (pc := 565) C dL_law_565 ?_
  refine z_aload_n (pc := 566) C dL_law_566 rfl ?_
  refine z_iload_n (pc := 567) C dL_law_567 rfl ?_
  refine z_iconst (pc := 568) (v := 3) C dL_law_568 (by decide) ?_
  refine z_iadd (pc := 569) C dL_law_569 ?_
  refine z_sldk (pc := 570) (b := b) (k := 3) C hs (nI_add b 3) (by omega) (by omega) dL_law_570 ?_
  rw [ha 3]
  refine z_callV (pc := 571) C zk_L_39 hx rfl rfl (by decide) rfl rfl (Nat.le_of_ble_eq_true rfl) dL_law_571 (fun r g q => ?_)
  obtain ⟨v, rfl, hm⟩ := q
  simp only [Option.toList, List.cons_append, List.nil_append]
  refine z_pop (pc := 574) C dL_law_574 ?_
  refine z_aload_n (pc := 575) C dL_law_575 rfl ?_
  refine z_aload_n (pc := 576) C dL_law_576 rfl ?_
  refine z_iload_n (pc := 577) C dL_law_577 rfl ?_
  refine z_iconst (pc := 578) (v := 1) C dL_law_578 (by decide) ?_
  refine z_iadd (pc := 579) C dL_law_579 ?_
  refine z_sldk (pc := 580) (b := b) (k := 1) C hs (nI_add b 1) (by omega) (by omega) dL_law_580 ?_
  rw [ha 1]
  refine z_i2l (pc := 581) C dL_law_581 ?_
  refine z_bipush (pc := 582) (v := 32) C dL_law_582 (by decide) ?_
  refine z_lshl (pc := 584) C dL_law_584 ?_
  refine z_aload_n (pc := 585) C dL_law_585 rfl ?_
  refine z_iload_n (pc := 586) C dL_law_586 rfl ?_
  refine z_iconst (pc := 587) (v := 2) C dL_law_587 (by decide) ?_
  refine z_iadd (pc := 588) C dL_law_588 ?_
  refine z_sldk (pc := 589) (b := b) (k := 2) C hs (nI_add b 2) (by omega) (by omega) dL_law_589 ?_
  rw [ha 2]
  refine z_i2l (pc := 590) C dL_law_590 ?_
  refine z_ldc2 (pc := 591) C zw_1432 dL_law_591 ?_
  refine z_land (pc := 594) C dL_law_594 ?_
  refine z_lor (pc := 595) C dL_law_595 ?_
  refine z_aload_n (pc := 596) C dL_law_596 rfl ?_
  refine z_iload_n (pc := 597) C dL_law_597 rfl ?_
  refine z_iconst (pc := 598) (v := 3) C dL_law_598 (by decide) ?_
  refine z_iadd (pc := 599) C dL_law_599 ?_
  refine z_sldk (pc := 600) (b := b) (k := 3) C hs (nI_add b 3) (by omega) (by omega) dL_law_600 ?_
  rw [ha 3]
  refine z_callV (pc := 601) C zk_L_43 hm rfl rfl (by decide) rfl rfl (Nat.le_of_ble_eq_true rfl) dL_law_601 (fun r2 g2 q2 => ?_)
  obtain ⟨⟨v2, rfl⟩, hJ⟩ := q2
  simp only [Option.toList, List.cons_append, List.nil_append]
  refine z_pop (pc := 604) C dL_law_604 ?_
  refine z_goto (pc := 605) 1501 C dL_law_605 (by decide) ?_
  exact kk _ hJ
set_option maxRecDepth 100000 in
set_option maxHeartbeats 4000000 in
theorem law_6 {X : zX} {Ln b : Nat} {xs a : Nat → Int32} {f : zM} {J : zM → Prop} (C : zC X cL_law RL 15) (hn : znL X = 4) (hs : zXs X Ln xs) (hb : b + 7 ≤ Ln) (h31 : Ln < 2 ^ 31) (hT : zXst X) (ha : ∀ j, xs (b + j) = a j) (hx : zCall_6 f a J) (kk : ∀ g, J g → Z X 1501 [some (zr 44 0), some (zr 0 0), some (zr 25 0), some (zi (nI b))] [] g) : Z X 608 [some (zr 44 0), some (zr 0 0), some (zr 25 0), some (zi (nI b))] [] f := by
  unfold zCall_6 at hx
  refine z_aload_n (pc := 608) C dL_law_608 rfl ?_
  refine z_callVS (pc := 609) C hT zk_L_44 hx rfl rfl (by decide) rfl rfl (Nat.le_of_ble_eq_true rfl) dL_law_609 (fun r g q => ?_)
  obtain ⟨v, rfl, hm⟩ := q
  simp only [Option.toList, List.cons_append, List.nil_append]
  refine z_pop (pc := 612) C dL_law_612 ?_
  refine z_aload_n (pc := 613) C dL_law_613 rfl ?_
  refine z_callV (pc := 614) C zk_L_48 hm rfl rfl (by decide) rfl rfl (Nat.le_of_ble_eq_true rfl) dL_law_614 (fun r2 g2 q2 => ?_)
  obtain ⟨⟨v2, rfl⟩, hJ⟩ := q2
  simp only [Option.toList, List.cons_append, List.nil_append]
  refine z_pop (pc := 617) C dL_law_617 ?_
  refine z_goto (pc := 618) 1501 C dL_law_618 (by decide) ?_
  exact kk _ hJ
