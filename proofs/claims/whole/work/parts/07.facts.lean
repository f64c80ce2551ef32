/-! what is given and never written, by a parameter z: array classes, addresses of what is only read, the script, a formatter, the addresses of all cells by kind and place -/
abbrev xZ : Type := (Nat → ClassId) × (Nat → Nat) × Nat × (Nat → Int32) × Value × (Nat → Nat → Nat)
def BW : List Cond := lw_tbl.filter goodWord
def NW : List Cond := lw_tbl.filter xNk
theorem bw {w : Cond} (i : Nat) (h : lw_tbl[i]? = some w) (hg : goodWord w = true) : w ∈ BW := List.mem_filter.mpr ⟨List.mem_of_getElem? h, hg⟩
theorem nw {w : Cond} (i : Nat) (h : lw_tbl[i]? = some w) (hg : xNk w = true) : w ∈ NW := List.mem_filter.mpr ⟨List.mem_of_getElem? h, hg⟩
def xtx : List (Nat × String) := [(119, "loss "), (121, "gain "), (123, "right "), (125, "wrong "), (127, "span "), (129, "paper "), (131, "ff "), (133, "n "), (135, " from "), (137, " to "), (139, " each ")]
def xby : List (List Int32) := [[108, 111, 115, 115, 32], [103, 97, 105, 110, 32], [114, 105, 103, 104, 116, 32], [119, 114, 111, 110, 103, 32], [115, 112, 97, 110, 32], [112, 97, 112, 101, 114, 32], [102, 102, 32], [110, 32], [32, 102, 114, 111, 109, 32], [32, 116, 111, 32], [32, 101, 97, 99, 104, 32]]
def xFL : List Int32 := [5, 10, 4, 1, 2, 0]
def xLL : List Int32 := [0, 0, 1, 1, 0, 0]
def xML : List Int32 := [99, 99, 9, 9, 99, 239]
def xro (z : xZ) : xRO :=
  ([(z.2.1 0, .int, z.2.2.1, z.2.2.2.1), (z.2.1 1, .int, 6, fun j => xFL.getD j 0), (z.2.1 2, .int, 6, fun j => xLL.getD j 0), (z.2.1 3, .int, 6, fun j => xML.getD j 0)] ++ (List.range 11).map (fun i => (z.2.1 (20 + i), .byte, (xby.getD i []).length, fun j => (xby.getD i []).getD j 0)),
   (List.range 11).map (fun i => (z.2.1 (5 + i), "java/lang/String")),
   (List.range 11).map (fun i => (z.2.1 (5 + i), "java/lang/String", "coder", "B", .int 0)) ++ (List.range 11).map (fun i => (z.2.1 (5 + i), "java/lang/String", "value", "[B", .ref (z.2.1 (20 + i)))),
   [("HumUnheard", "FIRST_LAWS", "[I", .ref (z.2.1 1)), ("HumUnheard", "LEAST_LAWS", "[I", .ref (z.2.1 2)), ("HumUnheard", "MOST_LAWS", "[I", .ref (z.2.1 3)), ("java/lang/String", "COMPACT_STRINGS", "Z", .int 1), ("jdk/internal/util/Preconditions", "SIOOBE_FORMATTER", "Ljava/util/function/BiFunction;", z.2.2.2.2.1)],
   (List.range 11).map (fun i => ("HumUnheard$Reader", (xtx.getD i (0, "")).1, (xtx.getD i (0, "")).2, z.2.1 (5 + i))))
def xtys (z : xZ) : List (ClassId × FieldType) := [(z.1 0, .int), (z.1 1, .long), (z.1 2, .object "HumUnheard$Shelf"), (z.1 3, .object "HumUnheard$Person"), (z.1 4, .object "HumUnheard$Source"), (z.1 5, .object "HumUnheard$Plan")]
def Cf (z : xZ) : xCf := (BW, NW, xcl, xtys z, xro z)
set_option maxRecDepth 100000 in
theorem inX0 : ∀ w ∈ u_ws RX0 TX0 5, w ∈ BW := fun w h => List.mem_filter.mpr ⟨(show ∀ w ∈ u_ws RX0 TX0 5, w ∈ lw_tbl by decide +kernel) w h, (show ∀ w ∈ u_ws RX0 TX0 5, goodWord w = true by decide +kernel) w h⟩
set_option maxRecDepth 100000 in
theorem inX1 : ∀ w ∈ u_ws RX1 TX1 7, w ∈ BW := fun w h => List.mem_filter.mpr ⟨(show ∀ w ∈ u_ws RX1 TX1 7, w ∈ lw_tbl by decide +kernel) w h, (show ∀ w ∈ u_ws RX1 TX1 7, goodWord w = true by decide +kernel) w h⟩
set_option maxRecDepth 100000 in
theorem inX2 : ∀ w ∈ u_ws RX2 TX2 4, w ∈ BW := fun w h => List.mem_filter.mpr ⟨(show ∀ w ∈ u_ws RX2 TX2 4, w ∈ lw_tbl by decide +kernel) w h, (show ∀ w ∈ u_ws RX2 TX2 4, goodWord w = true by decide +kernel) w h⟩
set_option maxRecDepth 100000 in
theorem inX3 : ∀ w ∈ u_ws RX3 TX3 5, w ∈ BW := fun w h => List.mem_filter.mpr ⟨(show ∀ w ∈ u_ws RX3 TX3 5, w ∈ lw_tbl by decide +kernel) w h, (show ∀ w ∈ u_ws RX3 TX3 5, goodWord w = true by decide +kernel) w h⟩
set_option maxRecDepth 100000 in
theorem inX4 : ∀ w ∈ u_ws RX4 TX4 6, w ∈ BW := fun w h => List.mem_filter.mpr ⟨(show ∀ w ∈ u_ws RX4 TX4 6, w ∈ lw_tbl by decide +kernel) w h, (show ∀ w ∈ u_ws RX4 TX4 6, goodWord w = true by decide +kernel) w h⟩
set_option maxRecDepth 100000 in
theorem inX5 : ∀ w ∈ u_ws RX5 TX5 8, w ∈ BW := fun w h => List.mem_filter.mpr ⟨(show ∀ w ∈ u_ws RX5 TX5 8, w ∈ lw_tbl by decide +kernel) w h, (show ∀ w ∈ u_ws RX5 TX5 8, goodWord w = true by decide +kernel) w h⟩
set_option maxRecDepth 100000 in
theorem inX6 : ∀ w ∈ u_ws RX6 TX6 8, w ∈ BW := fun w h => List.mem_filter.mpr ⟨(show ∀ w ∈ u_ws RX6 TX6 8, w ∈ lw_tbl by decide +kernel) w h, (show ∀ w ∈ u_ws RX6 TX6 8, goodWord w = true by decide +kernel) w h⟩
set_option maxRecDepth 100000 in
theorem inX7 : ∀ w ∈ u_ws RX7 TX7 3, w ∈ BW := fun w h => List.mem_filter.mpr ⟨(show ∀ w ∈ u_ws RX7 TX7 3, w ∈ lw_tbl by decide +kernel) w h, (show ∀ w ∈ u_ws RX7 TX7 3, goodWord w = true by decide +kernel) w h⟩
set_option maxRecDepth 100000 in
theorem inX8 : ∀ w ∈ u_ws RX8 TX8 8, w ∈ BW := fun w h => List.mem_filter.mpr ⟨(show ∀ w ∈ u_ws RX8 TX8 8, w ∈ lw_tbl by decide +kernel) w h, (show ∀ w ∈ u_ws RX8 TX8 8, goodWord w = true by decide +kernel) w h⟩
set_option maxRecDepth 100000 in
theorem inX9 : ∀ w ∈ u_ws RX9 TX9 14, w ∈ BW := fun w h => List.mem_filter.mpr ⟨(show ∀ w ∈ u_ws RX9 TX9 14, w ∈ lw_tbl by decide +kernel) w h, (show ∀ w ∈ u_ws RX9 TX9 14, goodWord w = true by decide +kernel) w h⟩
set_option maxRecDepth 100000 in
theorem inX10 : ∀ w ∈ u_ws RX10 TX10 8, w ∈ BW := fun w h => List.mem_filter.mpr ⟨(show ∀ w ∈ u_ws RX10 TX10 8, w ∈ lw_tbl by decide +kernel) w h, (show ∀ w ∈ u_ws RX10 TX10 8, goodWord w = true by decide +kernel) w h⟩
set_option maxRecDepth 100000 in
theorem inX11 : ∀ w ∈ u_ws RX11 TX11 77, w ∈ BW := fun w h => List.mem_filter.mpr ⟨(show ∀ w ∈ u_ws RX11 TX11 77, w ∈ lw_tbl by decide +kernel) w h, (show ∀ w ∈ u_ws RX11 TX11 77, goodWord w = true by decide +kernel) w h⟩
theorem xCf_ok (z : xZ) : xOK (Cf z) := by
  refine ⟨fun w hw => good_of_word (List.mem_filter.mp hw).2, fun w hw => (List.mem_filter.mp hw).2, fun ci q hq => ?_⟩
  match ci, hq with
  | 0, hq => cases hq; exact ⟨inX0, ⟨tyX0, tyX0_ok⟩, nmX0⟩
  | 1, hq => cases hq; exact ⟨inX1, ⟨tyX1, tyX1_ok⟩, nmX1⟩
  | 2, hq => cases hq; exact ⟨inX2, ⟨tyX2, tyX2_ok⟩, nmX2⟩
  | 3, hq => cases hq; exact ⟨inX3, ⟨tyX3, tyX3_ok⟩, nmX3⟩
  | 4, hq => cases hq; exact ⟨inX4, ⟨tyX4, tyX4_ok⟩, nmX4⟩
  | 5, hq => cases hq; exact ⟨inX5, ⟨tyX5, tyX5_ok⟩, nmX5⟩
  | 6, hq => cases hq; exact ⟨inX6, ⟨tyX6, tyX6_ok⟩, nmX6⟩
  | 7, hq => cases hq; exact ⟨inX7, ⟨tyX7, tyX7_ok⟩, nmX7⟩
  | 8, hq => cases hq; exact ⟨inX8, ⟨tyX8, tyX8_ok⟩, nmX8⟩
  | 9, hq => cases hq; exact ⟨inX9, ⟨tyX9, tyX9_ok⟩, nmX9⟩
  | 10, hq => cases hq; exact ⟨inX10, ⟨tyX10, tyX10_ok⟩, nmX10⟩
  | 11, hq => cases hq; exact ⟨inX11, ⟨tyX11, tyX11_ok⟩, nmX11⟩
  | n + 12, hq => simp [Cf, xcl] at hq
theorem nX10_9a : ∀ z, Cond.classLink RX10 9 "HumUnheard$Shelf" ∈ (Cf z).1 ∧ Cond.arrayOver (.object "HumUnheard$Shelf") ∈ (Cf z).2.1 := fun z => ⟨(bw 107 (by decide +kernel) rfl), nw 108 (by decide +kernel) rfl⟩
theorem fX10_11 : ∀ z, xFd (Cf z) RX10 11 10 0 := fun z => ⟨(RX10, TX10, 8), rfl, by decide, (bw 450 (by decide +kernel) rfl)⟩
theorem fX10_18 : ∀ z, xFd (Cf z) RX10 18 10 1 := fun z => ⟨(RX10, TX10, 8), rfl, by decide, (bw 451 (by decide +kernel) rfl)⟩
theorem fX10_22 : ∀ z, xFd (Cf z) RX10 22 6 0 := fun z => ⟨(RX6, TX6, 8), rfl, by decide, (bw 346 (by decide +kernel) rfl)⟩
theorem fX10_26 : ∀ z, xFd (Cf z) RX10 26 10 2 := fun z => ⟨(RX10, TX10, 8), rfl, by decide, (bw 452 (by decide +kernel) rfl)⟩
theorem fX10_30 : ∀ z, xFd (Cf z) RX10 30 10 3 := fun z => ⟨(RX10, TX10, 8), rfl, by decide, (bw 453 (by decide +kernel) rfl)⟩
theorem fX10_36 : ∀ z, xFd (Cf z) RX10 36 10 4 := fun z => ⟨(RX10, TX10, 8), rfl, by decide, (bw 454 (by decide +kernel) rfl)⟩
theorem fX10_43 : ∀ z, xFd (Cf z) RX10 43 10 5 := fun z => ⟨(RX10, TX10, 8), rfl, by decide, (bw 455 (by decide +kernel) rfl)⟩
theorem fX10_47 : ∀ z, xFd (Cf z) RX10 47 10 6 := fun z => ⟨(RX10, TX10, 8), rfl, by decide, (bw 456 (by decide +kernel) rfl)⟩
theorem fX10_51 : ∀ z, xFd (Cf z) RX10 51 10 7 := fun z => ⟨(RX10, TX10, 8), rfl, by decide, (bw 457 (by decide +kernel) rfl)⟩
theorem fX10_118 : ∀ z, xFd (Cf z) RX10 118 9 7 := fun z => ⟨(RX9, TX9, 14), rfl, by decide, (bw 301 (by decide +kernel) rfl)⟩
theorem fX10_141 : ∀ z, xFd (Cf z) RX10 141 9 1 := fun z => ⟨(RX9, TX9, 14), rfl, by decide, (bw 287 (by decide +kernel) rfl)⟩
theorem fX10_152 : ∀ z, xFd (Cf z) RX10 152 9 6 := fun z => ⟨(RX9, TX9, 14), rfl, by decide, (bw 299 (by decide +kernel) rfl)⟩
theorem fX10_156 : ∀ z, xFd (Cf z) RX10 156 3 0 := fun z => ⟨(RX3, TX3, 5), rfl, by decide, (bw 195 (by decide +kernel) rfl)⟩
theorem fX10_161 : ∀ z, xFd (Cf z) RX10 161 9 2 := fun z => ⟨(RX9, TX9, 14), rfl, by decide, (bw 290 (by decide +kernel) rfl)⟩
theorem fX10_177 : ∀ z, xFd (Cf z) RX10 177 8 6 := fun z => ⟨(RX8, TX8, 8), rfl, by decide, (bw 233 (by decide +kernel) rfl)⟩
theorem fX10_180 : ∀ z, xFd (Cf z) RX10 180 9 5 := fun z => ⟨(RX9, TX9, 14), rfl, by decide, (bw 296 (by decide +kernel) rfl)⟩
theorem fX10_186 : ∀ z, xFd (Cf z) RX10 186 9 11 := fun z => ⟨(RX9, TX9, 14), rfl, by decide, (bw 310 (by decide +kernel) rfl)⟩
theorem fX10_189 : ∀ z, xFd (Cf z) RX10 189 9 12 := fun z => ⟨(RX9, TX9, 14), rfl, by decide, (bw 312 (by decide +kernel) rfl)⟩
theorem fX10_192 : ∀ z, xFd (Cf z) RX10 192 9 0 := fun z => ⟨(RX9, TX9, 14), rfl, by decide, (bw 284 (by decide +kernel) rfl)⟩
theorem fX10_198 : ∀ z, xFd (Cf z) RX10 198 9 13 := fun z => ⟨(RX9, TX9, 14), rfl, by decide, (bw 315 (by decide +kernel) rfl)⟩
theorem fX10_205 : ∀ z, xFd (Cf z) RX10 205 5 6 := fun z => ⟨(RX5, TX5, 8), rfl, by decide, (bw 392 (by decide +kernel) rfl)⟩
theorem fX10_214 : ∀ z, xFd (Cf z) RX10 214 5 5 := fun z => ⟨(RX5, TX5, 8), rfl, by decide, (bw 390 (by decide +kernel) rfl)⟩
theorem fX10_221 : ∀ z, xFd (Cf z) RX10 221 9 3 := fun z => ⟨(RX9, TX9, 14), rfl, by decide, (bw 292 (by decide +kernel) rfl)⟩
theorem fX10_224 : ∀ z, xFd (Cf z) RX10 224 5 7 := fun z => ⟨(RX5, TX5, 8), rfl, by decide, (bw 394 (by decide +kernel) rfl)⟩
theorem fX10_232 : ∀ z, xFd (Cf z) RX10 232 5 4 := fun z => ⟨(RX5, TX5, 8), rfl, by decide, (bw 388 (by decide +kernel) rfl)⟩
theorem fX10_235 : ∀ z, xFd (Cf z) RX10 235 9 4 := fun z => ⟨(RX9, TX9, 14), rfl, by decide, (bw 294 (by decide +kernel) rfl)⟩
theorem fX10_256 : ∀ z, xFd (Cf z) RX10 256 9 9 := fun z => ⟨(RX9, TX9, 14), rfl, by decide, (bw 306 (by decide +kernel) rfl)⟩
theorem fX10_260 : ∀ z, xFd (Cf z) RX10 260 1 1 := fun z => ⟨(RX1, TX1, 7), rfl, by decide, (bw 136 (by decide +kernel) rfl)⟩
theorem fX10_275 : ∀ z, xFd (Cf z) RX10 275 1 2 := fun z => ⟨(RX1, TX1, 7), rfl, by decide, (bw 138 (by decide +kernel) rfl)⟩
theorem fX10_281 : ∀ z, xFd (Cf z) RX10 281 9 10 := fun z => ⟨(RX9, TX9, 14), rfl, by decide, (bw 308 (by decide +kernel) rfl)⟩
theorem fX10_285 : ∀ z, xFd (Cf z) RX10 285 2 0 := fun z => ⟨(RX2, TX2, 4), rfl, by decide, (bw 171 (by decide +kernel) rfl)⟩
theorem fX10_297 : ∀ z, xFd (Cf z) RX10 297 6 1 := fun z => ⟨(RX6, TX6, 8), rfl, by decide, (bw 348 (by decide +kernel) rfl)⟩
theorem fX10_365 : ∀ z, xFd (Cf z) RX10 365 0 4 := fun z => ⟨(RX0, TX0, 5), rfl, by decide, (bw 423 (by decide +kernel) rfl)⟩
theorem gX10_3 : ∀ z, Cond.methodLink RX10 3 objectInit ∈ (Cf z).1 := fun z => (bw 104 (by decide +kernel) rfl)
theorem cmX6_init : ∀ z, xCm (Cf z) MX6_init 0 := fun z => ⟨(bw 81 (by decide +kernel) rfl), (bw 113 (by decide +kernel) rfl), by decide +kernel, by decide, by decide +kernel⟩
theorem gX10_17 : ∀ z, xCi (Cf z) RX10 17 MX6_init 0 ∨ ∃ h, xCiN (Cf z) RX10 17 MX6_init 0 h := fun z => Or.inr ⟨"HumUnheard", cmX6_init z, nw 111 (by decide +kernel) rfl, (bw 112 (by decide +kernel) rfl), rfl, rfl⟩
theorem cmX9_init : ∀ z, xCm (Cf z) MX9_init 0 := fun z => ⟨(bw 82 (by decide +kernel) rfl), (bw 119 (by decide +kernel) rfl), by decide +kernel, by decide, by decide +kernel⟩
theorem gX10_29 : ∀ z, xCi (Cf z) RX10 29 MX9_init 0 ∨ ∃ h, xCiN (Cf z) RX10 29 MX9_init 0 h := fun z => Or.inl ⟨cmX9_init z, (bw 374 (by decide +kernel) rfl), (bw 118 (by decide +kernel) rfl), rfl, rfl⟩
theorem cmX5_init : ∀ z, xCm (Cf z) MX5_init 0 := fun z => ⟨(bw 89 (by decide +kernel) rfl), (bw 379 (by decide +kernel) rfl), by decide +kernel, by decide, by decide +kernel⟩
theorem gX10_35 : ∀ z, xCi (Cf z) RX10 35 MX5_init 0 ∨ ∃ h, xCiN (Cf z) RX10 35 MX5_init 0 h := fun z => Or.inr ⟨"HumUnheard", cmX5_init z, nw 377 (by decide +kernel) rfl, (bw 378 (by decide +kernel) rfl), rfl, rfl⟩
theorem cmX0_init : ∀ z, xCm (Cf z) MX0_init 0 := fun z => ⟨(bw 90 (by decide +kernel) rfl), (bw 416 (by decide +kernel) rfl), by decide +kernel, by decide, by decide +kernel⟩
theorem gX10_42 : ∀ z, xCi (Cf z) RX10 42 MX0_init 0 ∨ ∃ h, xCiN (Cf z) RX10 42 MX0_init 0 h := fun z => Or.inr ⟨"HumUnheard", cmX0_init z, nw 414 (by decide +kernel) rfl, (bw 415 (by decide +kernel) rfl), rfl, rfl⟩
theorem cmX7_init : ∀ z, xCm (Cf z) MX7_init 0 := fun z => ⟨(bw 91 (by decide +kernel) rfl), (bw 438 (by decide +kernel) rfl), by decide +kernel, by decide, by decide +kernel⟩
theorem gX10_55 : ∀ z, xCi (Cf z) RX10 55 MX7_init 0 ∨ ∃ h, xCiN (Cf z) RX10 55 MX7_init 0 h := fun z => Or.inr ⟨"HumUnheard", cmX7_init z, nw 436 (by decide +kernel) rfl, (bw 437 (by decide +kernel) rfl), rfl, rfl⟩
theorem cmX10_isShelf : ∀ z, xCm (Cf z) MX10_isShelf 1 := fun z => ⟨(bw 80 (by decide +kernel) rfl), (bw 481 (by decide +kernel) rfl), by decide +kernel, by decide, by decide +kernel⟩
theorem gX10_56 : ∀ z, xCs (Cf z) RX10 56 MX10_isShelf 1 ∨ ∃ h, xCsN (Cf z) RX10 56 MX10_isShelf 1 h := fun z => Or.inl ⟨cmX10_isShelf z, (bw 479 (by decide +kernel) rfl), (bw 480 (by decide +kernel) rfl)⟩
theorem cmX10_isSpot : ∀ z, xCm (Cf z) MX10_isSpot 1 := fun z => ⟨(bw 80 (by decide +kernel) rfl), (bw 608 (by decide +kernel) rfl), by decide +kernel, by decide, by decide +kernel⟩
theorem gX10_131 : ∀ z, xCs (Cf z) RX10 131 MX10_isSpot 1 ∨ ∃ h, xCsN (Cf z) RX10 131 MX10_isSpot 1 h := fun z => Or.inl ⟨cmX10_isSpot z, (bw 606 (by decide +kernel) rfl), (bw 607 (by decide +kernel) rfl)⟩
theorem cmX10_isTone : ∀ z, xCm (Cf z) MX10_isTone 1 := fun z => ⟨(bw 80 (by decide +kernel) rfl), (bw 611 (by decide +kernel) rfl), by decide +kernel, by decide, by decide +kernel⟩
theorem gX10_134 : ∀ z, xCs (Cf z) RX10 134 MX10_isTone 1 ∨ ∃ h, xCsN (Cf z) RX10 134 MX10_isTone 1 h := fun z => Or.inl ⟨cmX10_isTone z, (bw 609 (by decide +kernel) rfl), (bw 610 (by decide +kernel) rfl)⟩
theorem cmX10_isWithin : ∀ z, xCm (Cf z) MX10_isWithin 3 := fun z => ⟨(bw 80 (by decide +kernel) rfl), (bw 484 (by decide +kernel) rfl), by decide +kernel, by decide, by decide +kernel⟩
theorem gX10_137 : ∀ z, xCs (Cf z) RX10 137 MX10_isWithin 3 ∨ ∃ h, xCsN (Cf z) RX10 137 MX10_isWithin 3 h := fun z => Or.inl ⟨cmX10_isWithin z, (bw 482 (by decide +kernel) rfl), (bw 483 (by decide +kernel) rfl)⟩
theorem cmX10_bit : ∀ z, xCm (Cf z) MX10_bit 1 := fun z => ⟨(bw 80 (by decide +kernel) rfl), (bw 648 (by decide +kernel) rfl), by decide +kernel, by decide, by decide +kernel⟩
theorem gX10_183 : ∀ z, xCs (Cf z) RX10 183 MX10_bit 1 ∨ ∃ h, xCsN (Cf z) RX10 183 MX10_bit 1 h := fun z => Or.inl ⟨cmX10_bit z, (bw 662 (by decide +kernel) rfl), (bw 647 (by decide +kernel) rfl)⟩
theorem cmX10_isHour : ∀ z, xCm (Cf z) MX10_isHour 1 := fun z => ⟨(bw 80 (by decide +kernel) rfl), (bw 677 (by decide +kernel) rfl), by decide +kernel, by decide, by decide +kernel⟩
theorem gX10_195 : ∀ z, xCs (Cf z) RX10 195 MX10_isHour 1 ∨ ∃ h, xCsN (Cf z) RX10 195 MX10_isHour 1 h := fun z => Or.inl ⟨cmX10_isHour z, (bw 675 (by decide +kernel) rfl), (bw 676 (by decide +kernel) rfl)⟩
theorem gX10_208 : ∀ z, xCp (Cf z) RX10 208 := fun z => ⟨(bw 798 (by decide +kernel) rfl), (bw 282 (by decide +kernel) rfl), (bw 281 (by decide +kernel) rfl), (bw 88 (by decide +kernel) rfl)⟩
theorem cmX10_hasBit : ∀ z, xCm (Cf z) MX10_hasBit 2 := fun z => ⟨(bw 80 (by decide +kernel) rfl), (bw 878 (by decide +kernel) rfl), by decide +kernel, by decide, by decide +kernel⟩
theorem gX10_241 : ∀ z, xCs (Cf z) RX10 241 MX10_hasBit 2 ∨ ∃ h, xCsN (Cf z) RX10 241 MX10_hasBit 2 h := fun z => Or.inl ⟨cmX10_hasBit z, (bw 883 (by decide +kernel) rfl), (bw 877 (by decide +kernel) rfl)⟩
theorem cmX10_areHours : ∀ z, xCm (Cf z) MX10_areHours 2 := fun z => ⟨(bw 80 (by decide +kernel) rfl), (bw 1065 (by decide +kernel) rfl), by decide +kernel, by decide, by decide +kernel⟩
theorem gX10_322 : ∀ z, xCs (Cf z) RX10 322 MX10_areHours 2 ∨ ∃ h, xCsN (Cf z) RX10 322 MX10_areHours 2 h := fun z => Or.inl ⟨cmX10_areHours z, (bw 1063 (by decide +kernel) rfl), (bw 1064 (by decide +kernel) rfl)⟩
theorem cmX10_doublingsTo : ∀ z, xCm (Cf z) MX10_doublingsTo 1 := fun z => ⟨(bw 80 (by decide +kernel) rfl), (bw 1110 (by decide +kernel) rfl), by decide +kernel, by decide, by decide +kernel⟩
theorem gX10_333 : ∀ z, xCs (Cf z) RX10 333 MX10_doublingsTo 1 ∨ ∃ h, xCsN (Cf z) RX10 333 MX10_doublingsTo 1 h := fun z => Or.inl ⟨cmX10_doublingsTo z, (bw 1108 (by decide +kernel) rfl), (bw 1109 (by decide +kernel) rfl)⟩
theorem cmJ9_abs_0f7a4 : ∀ z, xCm (Cf z) MJ9_abs_0f7a4 1 := fun z => ⟨(bw 93 (by decide +kernel) rfl), (bw 645 (by decide +kernel) rfl), by decide +kernel, by decide, by decide +kernel⟩
theorem gX10_368 : ∀ z, xCs (Cf z) RX10 368 MJ9_abs_0f7a4 1 ∨ ∃ h, xCsN (Cf z) RX10 368 MJ9_abs_0f7a4 1 h := fun z => Or.inl ⟨cmJ9_abs_0f7a4 z, (bw 643 (by decide +kernel) rfl), (bw 644 (by decide +kernel) rfl)⟩
theorem cmX10_refuse : ∀ z, xCm (Cf z) MX10_refuse 1 := fun z => ⟨(bw 80 (by decide +kernel) rfl), (bw 488 (by decide +kernel) rfl), by decide +kernel, by decide, by decide +kernel⟩
theorem gX10_60 : ∀ z, xCv (Cf z) RX10 60 MX10_refuse 1 := fun z => ⟨cmX10_refuse z, (bw 485 (by decide +kernel) rfl), (bw 487 (by decide +kernel) rfl), (bw 0 (by decide +kernel) rfl)⟩
theorem cmX7_takeRow : ∀ z, xCm (Cf z) MX7_takeRow 2 := fun z => ⟨(bw 91 (by decide +kernel) rfl), (bw 492 (by decide +kernel) rfl), by decide +kernel, by decide, by decide +kernel⟩
theorem gX10_64 : ∀ z, xCv (Cf z) RX10 64 MX7_takeRow 2 := fun z => ⟨cmX7_takeRow z, (bw 489 (by decide +kernel) rfl), (bw 490 (by decide +kernel) rfl), (bw 491 (by decide +kernel) rfl)⟩
theorem cmX10_refusalOfRow : ∀ z, xCm (Cf z) MX10_refusalOfRow 1 := fun z => ⟨(bw 80 (by decide +kernel) rfl), (bw 500 (by decide +kernel) rfl), by decide +kernel, by decide, by decide +kernel⟩
theorem gX10_68 : ∀ z, xCv (Cf z) RX10 68 MX10_refusalOfRow 1 := fun z => ⟨cmX10_refusalOfRow z, (bw 497 (by decide +kernel) rfl), (bw 499 (by decide +kernel) rfl), (bw 1 (by decide +kernel) rfl)⟩
theorem cmX7_hasElement : ∀ z, xCm (Cf z) MX7_hasElement 1 := fun z => ⟨(bw 91 (by decide +kernel) rfl), (bw 517 (by decide +kernel) rfl), by decide +kernel, by decide, by decide +kernel⟩
theorem gX10_71 : ∀ z, xCv (Cf z) RX10 71 MX7_hasElement 1 := fun z => ⟨cmX7_hasElement z, (bw 514 (by decide +kernel) rfl), (bw 515 (by decide +kernel) rfl), (bw 516 (by decide +kernel) rfl)⟩
theorem cmX7_put : ∀ z, xCm (Cf z) MX7_put 2 := fun z => ⟨(bw 91 (by decide +kernel) rfl), (bw 521 (by decide +kernel) rfl), by decide +kernel, by decide, by decide +kernel⟩
theorem gX10_74 : ∀ z, xCv (Cf z) RX10 74 MX7_put 2 := fun z => ⟨cmX7_put z, (bw 518 (by decide +kernel) rfl), (bw 519 (by decide +kernel) rfl), (bw 520 (by decide +kernel) rfl)⟩
theorem cmX7_holdsSource : ∀ z, xCm (Cf z) MX7_holdsSource 0 := fun z => ⟨(bw 91 (by decide +kernel) rfl), (bw 504 (by decide +kernel) rfl), by decide +kernel, by decide, by decide +kernel⟩
theorem gX10_78 : ∀ z, xCv (Cf z) RX10 78 MX7_holdsSource 0 := fun z => ⟨cmX7_holdsSource z, (bw 501 (by decide +kernel) rfl), (bw 502 (by decide +kernel) rfl), (bw 503 (by decide +kernel) rfl)⟩
theorem cmX7_isOfOtherSort : ∀ z, xCm (Cf z) MX7_isOfOtherSort 1 := fun z => ⟨(bw 91 (by decide +kernel) rfl), (bw 534 (by decide +kernel) rfl), by decide +kernel, by decide, by decide +kernel⟩
theorem gX10_82 : ∀ z, xCv (Cf z) RX10 82 MX7_isOfOtherSort 1 := fun z => ⟨cmX7_isOfOtherSort z, (bw 531 (by decide +kernel) rfl), (bw 532 (by decide +kernel) rfl), (bw 533 (by decide +kernel) rfl)⟩
theorem cmX7_holdsNothing : ∀ z, xCm (Cf z) MX7_holdsNothing 0 := fun z => ⟨(bw 91 (by decide +kernel) rfl), (bw 508 (by decide +kernel) rfl), by decide +kernel, by decide, by decide +kernel⟩
theorem gX10_86 : ∀ z, xCv (Cf z) RX10 86 MX7_holdsNothing 0 := fun z => ⟨cmX7_holdsNothing z, (bw 513 (by decide +kernel) rfl), (bw 506 (by decide +kernel) rfl), (bw 507 (by decide +kernel) rfl)⟩
theorem cmX7_hasElements : ∀ z, xCm (Cf z) MX7_hasElements 2 := fun z => ⟨(bw 91 (by decide +kernel) rfl), (bw 538 (by decide +kernel) rfl), by decide +kernel, by decide, by decide +kernel⟩
theorem gX10_89 : ∀ z, xCv (Cf z) RX10 89 MX7_hasElements 2 := fun z => ⟨cmX7_hasElements z, (bw 535 (by decide +kernel) rfl), (bw 536 (by decide +kernel) rfl), (bw 537 (by decide +kernel) rfl)⟩
theorem cmX7_copyElements : ∀ z, xCm (Cf z) MX7_copyElements 4 := fun z => ⟨(bw 91 (by decide +kernel) rfl), (bw 542 (by decide +kernel) rfl), by decide +kernel, by decide, by decide +kernel⟩
theorem gX10_93 : ∀ z, xCv (Cf z) RX10 93 MX7_copyElements 4 := fun z => ⟨cmX7_copyElements z, (bw 539 (by decide +kernel) rfl), (bw 540 (by decide +kernel) rfl), (bw 541 (by decide +kernel) rfl)⟩
theorem cmX7_elementAt : ∀ z, xCm (Cf z) MX7_elementAt 1 := fun z => ⟨(bw 91 (by decide +kernel) rfl), (bw 552 (by decide +kernel) rfl), by decide +kernel, by decide, by decide +kernel⟩
theorem gX10_97 : ∀ z, xCv (Cf z) RX10 97 MX7_elementAt 1 := fun z => ⟨cmX7_elementAt z, (bw 549 (by decide +kernel) rfl), (bw 550 (by decide +kernel) rfl), (bw 551 (by decide +kernel) rfl)⟩
theorem cmX9_isSource : ∀ z, xCm (Cf z) MX9_isSource 1 := fun z => ⟨(bw 82 (by decide +kernel) rfl), (bw 560 (by decide +kernel) rfl), by decide +kernel, by decide, by decide +kernel⟩
theorem gX10_101 : ∀ z, xCv (Cf z) RX10 101 MX9_isSource 1 := fun z => ⟨cmX9_isSource z, (bw 557 (by decide +kernel) rfl), (bw 558 (by decide +kernel) rfl), (bw 559 (by decide +kernel) rfl)⟩
theorem cmX7_becomeEmpty : ∀ z, xCm (Cf z) MX7_becomeEmpty 0 := fun z => ⟨(bw 91 (by decide +kernel) rfl), (bw 564 (by decide +kernel) rfl), by decide +kernel, by decide, by decide +kernel⟩
theorem gX10_104 : ∀ z, xCv (Cf z) RX10 104 MX7_becomeEmpty 0 := fun z => ⟨cmX7_becomeEmpty z, (bw 561 (by decide +kernel) rfl), (bw 562 (by decide +kernel) rfl), (bw 563 (by decide +kernel) rfl)⟩
theorem cmX7_takeSource : ∀ z, xCm (Cf z) MX7_takeSource 1 := fun z => ⟨(bw 91 (by decide +kernel) rfl), (bw 568 (by decide +kernel) rfl), by decide +kernel, by decide, by decide +kernel⟩
theorem gX10_107 : ∀ z, xCv (Cf z) RX10 107 MX7_takeSource 1 := fun z => ⟨cmX7_takeSource z, (bw 565 (by decide +kernel) rfl), (bw 566 (by decide +kernel) rfl), (bw 567 (by decide +kernel) rfl)⟩
theorem cmX7_content : ∀ z, xCm (Cf z) MX7_content 0 := fun z => ⟨(bw 91 (by decide +kernel) rfl), (bw 576 (by decide +kernel) rfl), by decide +kernel, by decide, by decide +kernel⟩
theorem gX10_111 : ∀ z, xCv (Cf z) RX10 111 MX7_content 0 := fun z => ⟨cmX7_content z, (bw 573 (by decide +kernel) rfl), (bw 574 (by decide +kernel) rfl), (bw 575 (by decide +kernel) rfl)⟩
theorem cmX7_holdsRow : ∀ z, xCm (Cf z) MX7_holdsRow 0 := fun z => ⟨(bw 91 (by decide +kernel) rfl), (bw 512 (by decide +kernel) rfl), by decide +kernel, by decide, by decide +kernel⟩
theorem gX10_115 : ∀ z, xCv (Cf z) RX10 115 MX7_holdsRow 0 := fun z => ⟨cmX7_holdsRow z, (bw 581 (by decide +kernel) rfl), (bw 510 (by decide +kernel) rfl), (bw 511 (by decide +kernel) rfl)⟩
theorem cmX8_isOfKind : ∀ z, xCm (Cf z) MX8_isOfKind 1 := fun z => ⟨(bw 86 (by decide +kernel) rfl), (bw 585 (by decide +kernel) rfl), by decide +kernel, by decide, by decide +kernel⟩
theorem gX10_122 : ∀ z, xCv (Cf z) RX10 122 MX8_isOfKind 1 := fun z => ⟨cmX8_isOfKind z, (bw 582 (by decide +kernel) rfl), (bw 583 (by decide +kernel) rfl), (bw 584 (by decide +kernel) rfl)⟩
theorem cmX9_wordOf : ∀ z, xCm (Cf z) MX9_wordOf 2 := fun z => ⟨(bw 82 (by decide +kernel) rfl), (bw 593 (by decide +kernel) rfl), by decide +kernel, by decide, by decide +kernel⟩
theorem gX10_127 : ∀ z, xCv (Cf z) RX10 127 MX9_wordOf 2 := fun z => ⟨cmX9_wordOf z, (bw 590 (by decide +kernel) rfl), (bw 591 (by decide +kernel) rfl), (bw 592 (by decide +kernel) rfl)⟩
theorem cmX9_addPerson : ∀ z, xCm (Cf z) MX9_addPerson 5 := fun z => ⟨(bw 82 (by decide +kernel) rfl), (bw 615 (by decide +kernel) rfl), by decide +kernel, by decide, by decide +kernel⟩
theorem gX10_145 : ∀ z, xCv (Cf z) RX10 145 MX9_addPerson 5 := fun z => ⟨cmX9_addPerson z, (bw 612 (by decide +kernel) rfl), (bw 613 (by decide +kernel) rfl), (bw 614 (by decide +kernel) rfl)⟩
theorem cmX9_isPerson : ∀ z, xCm (Cf z) MX9_isPerson 1 := fun z => ⟨(bw 82 (by decide +kernel) rfl), (bw 627 (by decide +kernel) rfl), by decide +kernel, by decide, by decide +kernel⟩
theorem gX10_149 : ∀ z, xCv (Cf z) RX10 149 MX9_isPerson 1 := fun z => ⟨cmX9_isPerson z, (bw 624 (by decide +kernel) rfl), (bw 625 (by decide +kernel) rfl), (bw 626 (by decide +kernel) rfl)⟩
theorem cmX9_addSource : ∀ z, xCm (Cf z) MX9_addSource 4 := fun z => ⟨(bw 82 (by decide +kernel) rfl), (bw 635 (by decide +kernel) rfl), by decide +kernel, by decide, by decide +kernel⟩
theorem gX10_164 : ∀ z, xCv (Cf z) RX10 164 MX9_addSource 4 := fun z => ⟨cmX9_addSource z, (bw 632 (by decide +kernel) rfl), (bw 633 (by decide +kernel) rfl), (bw 634 (by decide +kernel) rfl)⟩
theorem cmX8_hoursAsNumber : ∀ z, xCm (Cf z) MX8_hoursAsNumber 0 := fun z => ⟨(bw 86 (by decide +kernel) rfl), (bw 597 (by decide +kernel) rfl), by decide +kernel, by decide, by decide +kernel⟩
theorem gX10_168 : ∀ z, xCv (Cf z) RX10 168 MX8_hoursAsNumber 0 := fun z => ⟨cmX8_hoursAsNumber z, (bw 653 (by decide +kernel) rfl), (bw 595 (by decide +kernel) rfl), (bw 596 (by decide +kernel) rfl)⟩
theorem cmX5_readLaws : ∀ z, xCm (Cf z) MX5_readLaws 2 := fun z => ⟨(bw 89 (by decide +kernel) rfl), (bw 685 (by decide +kernel) rfl), by decide +kernel, by decide, by decide +kernel⟩
theorem gX10_201 : ∀ z, xCv (Cf z) RX10 201 MX5_readLaws 2 := fun z => ⟨cmX5_readLaws z, (bw 682 (by decide +kernel) rfl), (bw 683 (by decide +kernel) rfl), (bw 684 (by decide +kernel) rfl)⟩
theorem cmX5_readPlan : ∀ z, xCm (Cf z) MX5_readPlan 2 := fun z => ⟨(bw 89 (by decide +kernel) rfl), (bw 811 (by decide +kernel) rfl), by decide +kernel, by decide, by decide +kernel⟩
theorem gX10_217 : ∀ z, xCv (Cf z) RX10 217 MX5_readPlan 2 := fun z => ⟨cmX5_readPlan z, (bw 808 (by decide +kernel) rfl), (bw 809 (by decide +kernel) rfl), (bw 810 (by decide +kernel) rfl)⟩
theorem cmX9_addPlan : ∀ z, xCm (Cf z) MX9_addPlan 1 := fun z => ⟨(bw 82 (by decide +kernel) rfl), (bw 828 (by decide +kernel) rfl), by decide +kernel, by decide, by decide +kernel⟩
theorem gX10_228 : ∀ z, xCv (Cf z) RX10 228 MX9_addPlan 1 := fun z => ⟨cmX9_addPlan z, (bw 825 (by decide +kernel) rfl), (bw 826 (by decide +kernel) rfl), (bw 827 (by decide +kernel) rfl)⟩
theorem cmX9_soundingAt : ∀ z, xCm (Cf z) MX9_soundingAt 1 := fun z => ⟨(bw 82 (by decide +kernel) rfl), (bw 849 (by decide +kernel) rfl), by decide +kernel, by decide, by decide +kernel⟩
theorem gX10_238 : ∀ z, xCv (Cf z) RX10 238 MX9_soundingAt 1 := fun z => ⟨cmX9_soundingAt z, (bw 846 (by decide +kernel) rfl), (bw 847 (by decide +kernel) rfl), (bw 848 (by decide +kernel) rfl)⟩
theorem cmX9_levelAt : ∀ z, xCm (Cf z) MX9_levelAt 2 := fun z => ⟨(bw 82 (by decide +kernel) rfl), (bw 891 (by decide +kernel) rfl), by decide +kernel, by decide, by decide +kernel⟩
theorem gX10_244 : ∀ z, xCv (Cf z) RX10 244 MX9_levelAt 2 := fun z => ⟨cmX9_levelAt z, (bw 888 (by decide +kernel) rfl), (bw 889 (by decide +kernel) rfl), (bw 890 (by decide +kernel) rfl)⟩
theorem cmX3_needFor : ∀ z, xCm (Cf z) MX3_needFor 1 := fun z => ⟨(bw 85 (by decide +kernel) rfl), (bw 913 (by decide +kernel) rfl), by decide +kernel, by decide, by decide +kernel⟩
theorem gX10_247 : ∀ z, xCv (Cf z) RX10 247 MX3_needFor 1 := fun z => ⟨cmX3_needFor z, (bw 910 (by decide +kernel) rfl), (bw 911 (by decide +kernel) rfl), (bw 912 (by decide +kernel) rfl)⟩
theorem cmX9_heardBy : ∀ z, xCm (Cf z) MX9_heardBy 2 := fun z => ⟨(bw 82 (by decide +kernel) rfl), (bw 922 (by decide +kernel) rfl), by decide +kernel, by decide, by decide +kernel⟩
theorem gX10_250 : ∀ z, xCv (Cf z) RX10 250 MX9_heardBy 2 := fun z => ⟨cmX9_heardBy z, (bw 919 (by decide +kernel) rfl), (bw 920 (by decide +kernel) rfl), (bw 921 (by decide +kernel) rfl)⟩
theorem cmX9_loudestFor : ∀ z, xCm (Cf z) MX9_loudestFor 2 := fun z => ⟨(bw 82 (by decide +kernel) rfl), (bw 941 (by decide +kernel) rfl), by decide +kernel, by decide, by decide +kernel⟩
theorem gX10_253 : ∀ z, xCv (Cf z) RX10 253 MX9_loudestFor 2 := fun z => ⟨cmX9_loudestFor z, (bw 938 (by decide +kernel) rfl), (bw 939 (by decide +kernel) rfl), (bw 940 (by decide +kernel) rfl)⟩
theorem cmX1_addPress : ∀ z, xCm (Cf z) MX1_addPress 4 := fun z => ⟨(bw 83 (by decide +kernel) rfl), (bw 950 (by decide +kernel) rfl), by decide +kernel, by decide, by decide +kernel⟩
theorem gX10_265 : ∀ z, xCv (Cf z) RX10 265 MX1_addPress 4 := fun z => ⟨cmX1_addPress z, (bw 947 (by decide +kernel) rfl), (bw 948 (by decide +kernel) rfl), (bw 949 (by decide +kernel) rfl)⟩
theorem cmX7_countPresses : ∀ z, xCm (Cf z) MX7_countPresses 2 := fun z => ⟨(bw 91 (by decide +kernel) rfl), (bw 962 (by decide +kernel) rfl), by decide +kernel, by decide, by decide +kernel⟩
theorem gX10_269 : ∀ z, xCv (Cf z) RX10 269 MX7_countPresses 2 := fun z => ⟨cmX7_countPresses z, (bw 959 (by decide +kernel) rfl), (bw 960 (by decide +kernel) rfl), (bw 961 (by decide +kernel) rfl)⟩
theorem cmX9_addPresses : ∀ z, xCm (Cf z) MX9_addPresses 4 := fun z => ⟨(bw 82 (by decide +kernel) rfl), (bw 971 (by decide +kernel) rfl), by decide +kernel, by decide, by decide +kernel⟩
theorem gX10_272 : ∀ z, xCv (Cf z) RX10 272 MX9_addPresses 4 := fun z => ⟨cmX9_addPresses z, (bw 968 (by decide +kernel) rfl), (bw 969 (by decide +kernel) rfl), (bw 970 (by decide +kernel) rfl)⟩
theorem cmX1_addMatch : ∀ z, xCm (Cf z) MX1_addMatch 2 := fun z => ⟨(bw 83 (by decide +kernel) rfl), (bw 982 (by decide +kernel) rfl), by decide +kernel, by decide, by decide +kernel⟩
theorem gX10_278 : ∀ z, xCv (Cf z) RX10 278 MX1_addMatch 2 := fun z => ⟨cmX1_addMatch z, (bw 979 (by decide +kernel) rfl), (bw 980 (by decide +kernel) rfl), (bw 981 (by decide +kernel) rfl)⟩
theorem cmX2_add : ∀ z, xCm (Cf z) MX2_add 3 := fun z => ⟨(bw 84 (by decide +kernel) rfl), (bw 990 (by decide +kernel) rfl), by decide +kernel, by decide, by decide +kernel⟩
theorem gX10_290 : ∀ z, xCv (Cf z) RX10 290 MX2_add 3 := fun z => ⟨cmX2_add z, (bw 987 (by decide +kernel) rfl), (bw 988 (by decide +kernel) rfl), (bw 989 (by decide +kernel) rfl)⟩
theorem cmX6_weigh : ∀ z, xCm (Cf z) MX6_weigh 1 := fun z => ⟨(bw 81 (by decide +kernel) rfl), (bw 998 (by decide +kernel) rfl), by decide +kernel, by decide, by decide +kernel⟩
theorem gX10_294 : ∀ z, xCv (Cf z) RX10 294 MX6_weigh 1 := fun z => ⟨cmX6_weigh z, (bw 995 (by decide +kernel) rfl), (bw 996 (by decide +kernel) rfl), (bw 997 (by decide +kernel) rfl)⟩
theorem cmX6_surest : ∀ z, xCm (Cf z) MX6_surest 1 := fun z => ⟨(bw 81 (by decide +kernel) rfl), (bw 1026 (by decide +kernel) rfl), by decide +kernel, by decide, by decide +kernel⟩
theorem gX10_301 : ∀ z, xCv (Cf z) RX10 301 MX6_surest 1 := fun z => ⟨cmX6_surest z, (bw 1023 (by decide +kernel) rfl), (bw 1024 (by decide +kernel) rfl), (bw 1025 (by decide +kernel) rfl)⟩
theorem cmX9_airborne : ∀ z, xCm (Cf z) MX9_airborne 0 := fun z => ⟨(bw 82 (by decide +kernel) rfl), (bw 1035 (by decide +kernel) rfl), by decide +kernel, by decide, by decide +kernel⟩
theorem gX10_304 : ∀ z, xCv (Cf z) RX10 304 MX9_airborne 0 := fun z => ⟨cmX9_airborne z, (bw 1032 (by decide +kernel) rfl), (bw 1033 (by decide +kernel) rfl), (bw 1034 (by decide +kernel) rfl)⟩
theorem cmX9_nearTo : ∀ z, xCm (Cf z) MX9_nearTo 1 := fun z => ⟨(bw 82 (by decide +kernel) rfl), (bw 1010 (by decide +kernel) rfl), by decide +kernel, by decide, by decide +kernel⟩
theorem gX10_307 : ∀ z, xCv (Cf z) RX10 307 MX9_nearTo 1 := fun z => ⟨cmX9_nearTo z, (bw 1036 (by decide +kernel) rfl), (bw 1008 (by decide +kernel) rfl), (bw 1009 (by decide +kernel) rfl)⟩
theorem cmX9_audibleTo : ∀ z, xCm (Cf z) MX9_audibleTo 2 := fun z => ⟨(bw 82 (by decide +kernel) rfl), (bw 926 (by decide +kernel) rfl), by decide +kernel, by decide, by decide +kernel⟩
theorem gX10_310 : ∀ z, xCv (Cf z) RX10 310 MX9_audibleTo 2 := fun z => ⟨cmX9_audibleTo z, (bw 1037 (by decide +kernel) rfl), (bw 924 (by decide +kernel) rfl), (bw 925 (by decide +kernel) rfl)⟩
theorem cmX9_lackOf : ∀ z, xCm (Cf z) MX9_lackOf 1 := fun z => ⟨(bw 82 (by decide +kernel) rfl), (bw 1045 (by decide +kernel) rfl), by decide +kernel, by decide, by decide +kernel⟩
theorem gX10_313 : ∀ z, xCv (Cf z) RX10 313 MX9_lackOf 1 := fun z => ⟨cmX9_lackOf z, (bw 1042 (by decide +kernel) rfl), (bw 1043 (by decide +kernel) rfl), (bw 1044 (by decide +kernel) rfl)⟩
theorem cmX9_countLetters : ∀ z, xCm (Cf z) MX9_countLetters 1 := fun z => ⟨(bw 82 (by decide +kernel) rfl), (bw 1057 (by decide +kernel) rfl), by decide +kernel, by decide, by decide +kernel⟩
theorem gX10_316 : ∀ z, xCv (Cf z) RX10 316 MX9_countLetters 1 := fun z => ⟨cmX9_countLetters z, (bw 1054 (by decide +kernel) rfl), (bw 1055 (by decide +kernel) rfl), (bw 1056 (by decide +kernel) rfl)⟩
theorem cmX9_allSources : ∀ z, xCm (Cf z) MX9_allSources 0 := fun z => ⟨(bw 82 (by decide +kernel) rfl), (bw 853 (by decide +kernel) rfl), by decide +kernel, by decide, by decide +kernel⟩
theorem gX10_319 : ∀ z, xCv (Cf z) RX10 319 MX9_allSources 0 := fun z => ⟨cmX9_allSources z, (bw 1062 (by decide +kernel) rfl), (bw 851 (by decide +kernel) rfl), (bw 852 (by decide +kernel) rfl)⟩
theorem cmX6_countRid : ∀ z, xCm (Cf z) MX6_countRid 3 := fun z => ⟨(bw 81 (by decide +kernel) rfl), (bw 1069 (by decide +kernel) rfl), by decide +kernel, by decide, by decide +kernel⟩
theorem gX10_325 : ∀ z, xCv (Cf z) RX10 325 MX6_countRid 3 := fun z => ⟨cmX6_countRid z, (bw 1066 (by decide +kernel) rfl), (bw 1067 (by decide +kernel) rfl), (bw 1068 (by decide +kernel) rfl)⟩
theorem cmX6_bestSet : ∀ z, xCm (Cf z) MX6_bestSet 3 := fun z => ⟨(bw 81 (by decide +kernel) rfl), (bw 1085 (by decide +kernel) rfl), by decide +kernel, by decide, by decide +kernel⟩
theorem gX10_329 : ∀ z, xCv (Cf z) RX10 329 MX6_bestSet 3 := fun z => ⟨cmX6_bestSet z, (bw 1082 (by decide +kernel) rfl), (bw 1083 (by decide +kernel) rfl), (bw 1084 (by decide +kernel) rfl)⟩
theorem cmX9_countBeats : ∀ z, xCm (Cf z) MX9_countBeats 1 := fun z => ⟨(bw 82 (by decide +kernel) rfl), (bw 1118 (by decide +kernel) rfl), by decide +kernel, by decide, by decide +kernel⟩
theorem gX10_336 : ∀ z, xCv (Cf z) RX10 336 MX9_countBeats 1 := fun z => ⟨cmX9_countBeats z, (bw 1115 (by decide +kernel) rfl), (bw 1116 (by decide +kernel) rfl), (bw 1117 (by decide +kernel) rfl)⟩
theorem cmX9_soundingWithin : ∀ z, xCm (Cf z) MX9_soundingWithin 2 := fun z => ⟨(bw 82 (by decide +kernel) rfl), (bw 1073 (by decide +kernel) rfl), by decide +kernel, by decide, by decide +kernel⟩
theorem gX10_339 : ∀ z, xCv (Cf z) RX10 339 MX9_soundingWithin 2 := fun z => ⟨cmX9_soundingWithin z, (bw 1133 (by decide +kernel) rfl), (bw 1071 (by decide +kernel) rfl), (bw 1072 (by decide +kernel) rfl)⟩
theorem cmX6_countMetered : ∀ z, xCm (Cf z) MX6_countMetered 3 := fun z => ⟨(bw 81 (by decide +kernel) rfl), (bw 1137 (by decide +kernel) rfl), by decide +kernel, by decide, by decide +kernel⟩
theorem gX10_342 : ∀ z, xCv (Cf z) RX10 342 MX6_countMetered 3 := fun z => ⟨cmX6_countMetered z, (bw 1134 (by decide +kernel) rfl), (bw 1135 (by decide +kernel) rfl), (bw 1136 (by decide +kernel) rfl)⟩
theorem cmX6_spotForMeter : ∀ z, xCm (Cf z) MX6_spotForMeter 3 := fun z => ⟨(bw 81 (by decide +kernel) rfl), (bw 1147 (by decide +kernel) rfl), by decide +kernel, by decide, by decide +kernel⟩
theorem gX10_345 : ∀ z, xCv (Cf z) RX10 345 MX6_spotForMeter 3 := fun z => ⟨cmX6_spotForMeter z, (bw 1144 (by decide +kernel) rfl), (bw 1145 (by decide +kernel) rfl), (bw 1146 (by decide +kernel) rfl)⟩
theorem cmX6_spotForBed : ∀ z, xCm (Cf z) MX6_spotForBed 3 := fun z => ⟨(bw 81 (by decide +kernel) rfl), (bw 1156 (by decide +kernel) rfl), by decide +kernel, by decide, by decide +kernel⟩
theorem gX10_348 : ∀ z, xCv (Cf z) RX10 348 MX6_spotForBed 3 := fun z => ⟨cmX6_spotForBed z, (bw 1153 (by decide +kernel) rfl), (bw 1154 (by decide +kernel) rfl), (bw 1155 (by decide +kernel) rfl)⟩
theorem cmX0_forget : ∀ z, xCm (Cf z) MX0_forget 0 := fun z => ⟨(bw 90 (by decide +kernel) rfl), (bw 1166 (by decide +kernel) rfl), by decide +kernel, by decide, by decide +kernel⟩
theorem gX10_351 : ∀ z, xCv (Cf z) RX10 351 MX0_forget 0 := fun z => ⟨cmX0_forget z, (bw 1163 (by decide +kernel) rfl), (bw 1164 (by decide +kernel) rfl), (bw 1165 (by decide +kernel) rfl)⟩
theorem cmX0_run : ∀ z, xCm (Cf z) MX0_run 4 := fun z => ⟨(bw 90 (by decide +kernel) rfl), (bw 1170 (by decide +kernel) rfl), by decide +kernel, by decide, by decide +kernel⟩
theorem gX10_354 : ∀ z, xCv (Cf z) RX10 354 MX0_run 4 := fun z => ⟨cmX0_run z, (bw 1167 (by decide +kernel) rfl), (bw 1168 (by decide +kernel) rfl), (bw 1169 (by decide +kernel) rfl)⟩
theorem cmX0_bodyAt : ∀ z, xCm (Cf z) MX0_bodyAt 1 := fun z => ⟨(bw 90 (by decide +kernel) rfl), (bw 1202 (by decide +kernel) rfl), by decide +kernel, by decide, by decide +kernel⟩
theorem gX10_358 : ∀ z, xCv (Cf z) RX10 358 MX0_bodyAt 1 := fun z => ⟨cmX0_bodyAt z, (bw 1199 (by decide +kernel) rfl), (bw 1200 (by decide +kernel) rfl), (bw 1201 (by decide +kernel) rfl)⟩
theorem cmX9_becomeLike : ∀ z, xCm (Cf z) MX9_becomeLike 1 := fun z => ⟨(bw 82 (by decide +kernel) rfl), (bw 1210 (by decide +kernel) rfl), by decide +kernel, by decide, by decide +kernel⟩
theorem gX10_361 : ∀ z, xCv (Cf z) RX10 361 MX9_becomeLike 1 := fun z => ⟨cmX9_becomeLike z, (bw 1207 (by decide +kernel) rfl), (bw 1208 (by decide +kernel) rfl), (bw 1209 (by decide +kernel) rfl)⟩
theorem kX10_332 : ∀ z, Cond.constant RX10 332 1000000 ∈ (Cf z).1 := fun z => (bw 1107 (by decide +kernel) rfl)
theorem nX10_9 : ∀ z, Cond.classLink RX10 9 RX7 ∈ (Cf z).1 ∧ Cond.instantiable RX7 3 ∈ (Cf z).1 ∧ Cond.initialized RX7 ∈ (Cf z).1 := fun z => ⟨(bw 107 (by decide +kernel) rfl), (bw 435 (by decide +kernel) rfl), (bw 91 (by decide +kernel) rfl)⟩
theorem nX10_15 : ∀ z, Cond.classLink RX10 15 RX6 ∈ (Cf z).1 ∧ Cond.instantiable RX6 8 ∈ (Cf z).1 ∧ Cond.initialized RX6 ∈ (Cf z).1 := fun z => ⟨(bw 109 (by decide +kernel) rfl), (bw 110 (by decide +kernel) rfl), (bw 81 (by decide +kernel) rfl)⟩
theorem nX10_27 : ∀ z, Cond.classLink RX10 27 RX9 ∈ (Cf z).1 ∧ Cond.instantiable RX9 14 ∈ (Cf z).1 ∧ Cond.initialized RX9 ∈ (Cf z).1 := fun z => ⟨(bw 373 (by decide +kernel) rfl), (bw 116 (by decide +kernel) rfl), (bw 82 (by decide +kernel) rfl)⟩
theorem nX10_33 : ∀ z, Cond.classLink RX10 33 RX5 ∈ (Cf z).1 ∧ Cond.instantiable RX5 8 ∈ (Cf z).1 ∧ Cond.initialized RX5 ∈ (Cf z).1 := fun z => ⟨(bw 375 (by decide +kernel) rfl), (bw 376 (by decide +kernel) rfl), (bw 89 (by decide +kernel) rfl)⟩
theorem nX10_40 : ∀ z, Cond.classLink RX10 40 RX0 ∈ (Cf z).1 ∧ Cond.instantiable RX0 5 ∈ (Cf z).1 ∧ Cond.initialized RX0 ∈ (Cf z).1 := fun z => ⟨(bw 412 (by decide +kernel) rfl), (bw 413 (by decide +kernel) rfl), (bw 90 (by decide +kernel) rfl)⟩
theorem pX10_11 : ∀ z, xFf (Cf z) RX10 11 10 0 (.array (.object "HumUnheard$Shelf")) := fun z => ⟨(RX10, TX10, 8), rfl, by decide, (bw 450 (by decide +kernel) rfl), rfl, rfl, by decide +kernel⟩
theorem pX10_18 : ∀ z, xFf (Cf z) RX10 18 10 1 (.object "HumUnheard$Seeker") := fun z => ⟨(RX10, TX10, 8), rfl, by decide, (bw 451 (by decide +kernel) rfl), rfl, rfl, by decide +kernel⟩
theorem pX10_26 : ∀ z, xFf (Cf z) RX10 26 10 2 (.object "HumUnheard$Town") := fun z => ⟨(RX10, TX10, 8), rfl, by decide, (bw 452 (by decide +kernel) rfl), rfl, rfl, by decide +kernel⟩
theorem pX10_30 : ∀ z, xFf (Cf z) RX10 30 10 3 (.object "HumUnheard$Town") := fun z => ⟨(RX10, TX10, 8), rfl, by decide, (bw 453 (by decide +kernel) rfl), rfl, rfl, by decide +kernel⟩
theorem pX10_36 : ∀ z, xFf (Cf z) RX10 36 10 4 (.object "HumUnheard$Reader") := fun z => ⟨(RX10, TX10, 8), rfl, by decide, (bw 454 (by decide +kernel) rfl), rfl, rfl, by decide +kernel⟩
theorem pX10_43 : ∀ z, xFf (Cf z) RX10 43 10 5 (.object "HumUnheard$Acts") := fun z => ⟨(RX10, TX10, 8), rfl, by decide, (bw 455 (by decide +kernel) rfl), rfl, rfl, by decide +kernel⟩
theorem pX10_47 : ∀ z, xFf (Cf z) RX10 47 10 6 (.array .int) := fun z => ⟨(RX10, TX10, 8), rfl, by decide, (bw 456 (by decide +kernel) rfl), rfl, rfl, by decide +kernel⟩
theorem pX10_51 : ∀ z, xFp (Cf z) RX10 51 10 7 (.boolean) := fun z => ⟨(RX10, TX10, 8), rfl, by decide, (bw 457 (by decide +kernel) rfl), rfl, by decide +kernel⟩
theorem pX10_156 : ∀ z, xFp (Cf z) RX10 156 3 0 (.int) := fun z => ⟨(RX3, TX3, 5), rfl, by decide, (bw 195 (by decide +kernel) rfl), rfl, by decide +kernel⟩
theorem pX10_171 : ∀ z, xFp (Cf z) RX10 171 8 4 (.int) := fun z => ⟨(RX8, TX8, 8), rfl, by decide, (bw 228 (by decide +kernel) rfl), rfl, by decide +kernel⟩
theorem pX10_174 : ∀ z, xFp (Cf z) RX10 174 8 5 (.int) := fun z => ⟨(RX8, TX8, 8), rfl, by decide, (bw 230 (by decide +kernel) rfl), rfl, by decide +kernel⟩
theorem pX10_177 : ∀ z, xFp (Cf z) RX10 177 8 6 (.int) := fun z => ⟨(RX8, TX8, 8), rfl, by decide, (bw 233 (by decide +kernel) rfl), rfl, by decide +kernel⟩
theorem pX10_180 : ∀ z, xFp (Cf z) RX10 180 9 5 (.int) := fun z => ⟨(RX9, TX9, 14), rfl, by decide, (bw 296 (by decide +kernel) rfl), rfl, by decide +kernel⟩
theorem pX10_192 : ∀ z, xFp (Cf z) RX10 192 9 0 (.int) := fun z => ⟨(RX9, TX9, 14), rfl, by decide, (bw 284 (by decide +kernel) rfl), rfl, by decide +kernel⟩
theorem pX10_235 : ∀ z, xFp (Cf z) RX10 235 9 4 (.int) := fun z => ⟨(RX9, TX9, 14), rfl, by decide, (bw 294 (by decide +kernel) rfl), rfl, by decide +kernel⟩
theorem fX0_9 : ∀ z, xFd (Cf z) RX0 9 0 0 := fun z => ⟨(RX0, TX0, 5), rfl, by decide, (bw 418 (by decide +kernel) rfl)⟩
theorem fX0_15 : ∀ z, xFd (Cf z) RX0 15 0 1 := fun z => ⟨(RX0, TX0, 5), rfl, by decide, (bw 419 (by decide +kernel) rfl)⟩
theorem fX0_19 : ∀ z, xFd (Cf z) RX0 19 0 2 := fun z => ⟨(RX0, TX0, 5), rfl, by decide, (bw 420 (by decide +kernel) rfl)⟩
theorem fX0_22 : ∀ z, xFd (Cf z) RX0 22 0 3 := fun z => ⟨(RX0, TX0, 5), rfl, by decide, (bw 421 (by decide +kernel) rfl)⟩
theorem fX0_25 : ∀ z, xFd (Cf z) RX0 25 0 4 := fun z => ⟨(RX0, TX0, 5), rfl, by decide, (bw 422 (by decide +kernel) rfl)⟩
theorem fX0_28 : ∀ z, xFd (Cf z) RX0 28 8 2 := fun z => ⟨(RX8, TX8, 8), rfl, by decide, (bw 223 (by decide +kernel) rfl)⟩
theorem fX0_33 : ∀ z, xFd (Cf z) RX0 33 8 0 := fun z => ⟨(RX8, TX8, 8), rfl, by decide, (bw 218 (by decide +kernel) rfl)⟩
theorem gX0_3 : ∀ z, Cond.methodLink RX0 3 objectInit ∈ (Cf z).1 := fun z => (bw 417 (by decide +kernel) rfl)
theorem cmX0_soundsWith : ∀ z, xCm (Cf z) MX0_soundsWith 1 := fun z => ⟨(bw 90 (by decide +kernel) rfl), (bw 1174 (by decide +kernel) rfl), by decide +kernel, by decide, by decide +kernel⟩
theorem gX0_34 : ∀ z, xCv (Cf z) RX0 34 MX0_soundsWith 1 := fun z => ⟨cmX0_soundsWith z, (bw 1171 (by decide +kernel) rfl), (bw 1173 (by decide +kernel) rfl), (bw 27 (by decide +kernel) rfl)⟩
theorem cmX0_reachesWith : ∀ z, xCm (Cf z) MX0_reachesWith 1 := fun z => ⟨(bw 90 (by decide +kernel) rfl), (bw 1182 (by decide +kernel) rfl), by decide +kernel, by decide, by decide +kernel⟩
theorem gX0_38 : ∀ z, xCv (Cf z) RX0 38 MX0_reachesWith 1 := fun z => ⟨cmX0_reachesWith z, (bw 1179 (by decide +kernel) rfl), (bw 1181 (by decide +kernel) rfl), (bw 29 (by decide +kernel) rfl)⟩
theorem cmX0_hearsWith : ∀ z, xCm (Cf z) MX0_hearsWith 1 := fun z => ⟨(bw 90 (by decide +kernel) rfl), (bw 1190 (by decide +kernel) rfl), by decide +kernel, by decide, by decide +kernel⟩
theorem gX0_41 : ∀ z, xCv (Cf z) RX0 41 MX0_hearsWith 1 := fun z => ⟨cmX0_hearsWith z, (bw 1187 (by decide +kernel) rfl), (bw 1189 (by decide +kernel) rfl), (bw 31 (by decide +kernel) rfl)⟩
theorem cmX0_begin : ∀ z, xCm (Cf z) MX0_begin 1 := fun z => ⟨(bw 90 (by decide +kernel) rfl), (bw 1178 (by decide +kernel) rfl), by decide +kernel, by decide, by decide +kernel⟩
theorem gX0_44 : ∀ z, xCv (Cf z) RX0 44 MX0_begin 1 := fun z => ⟨cmX0_begin z, (bw 1175 (by decide +kernel) rfl), (bw 1177 (by decide +kernel) rfl), (bw 28 (by decide +kernel) rfl)⟩
theorem cmX0_reachesOfHum : ∀ z, xCm (Cf z) MX0_reachesOfHum 1 := fun z => ⟨(bw 90 (by decide +kernel) rfl), (bw 1186 (by decide +kernel) rfl), by decide +kernel, by decide, by decide +kernel⟩
theorem gX0_48 : ∀ z, xCv (Cf z) RX0 48 MX0_reachesOfHum 1 := fun z => ⟨cmX0_reachesOfHum z, (bw 1183 (by decide +kernel) rfl), (bw 1185 (by decide +kernel) rfl), (bw 30 (by decide +kernel) rfl)⟩
theorem cmX0_hearsOfHum : ∀ z, xCm (Cf z) MX0_hearsOfHum 1 := fun z => ⟨(bw 90 (by decide +kernel) rfl), (bw 1194 (by decide +kernel) rfl), by decide +kernel, by decide, by decide +kernel⟩
theorem gX0_51 : ∀ z, xCv (Cf z) RX0 51 MX0_hearsOfHum 1 := fun z => ⟨cmX0_hearsOfHum z, (bw 1191 (by decide +kernel) rfl), (bw 1193 (by decide +kernel) rfl), (bw 32 (by decide +kernel) rfl)⟩
theorem pX0_9 : ∀ z, xFf (Cf z) RX0 9 0 0 (.array .int) := fun z => ⟨(RX0, TX0, 5), rfl, by decide, (bw 418 (by decide +kernel) rfl), rfl, rfl, by decide +kernel⟩
theorem pX0_15 : ∀ z, xFp (Cf z) RX0 15 0 1 (.int) := fun z => ⟨(RX0, TX0, 5), rfl, by decide, (bw 419 (by decide +kernel) rfl), rfl, by decide +kernel⟩
theorem pX0_19 : ∀ z, xFp (Cf z) RX0 19 0 2 (.int) := fun z => ⟨(RX0, TX0, 5), rfl, by decide, (bw 420 (by decide +kernel) rfl), rfl, by decide +kernel⟩
theorem pX0_22 : ∀ z, xFp (Cf z) RX0 22 0 3 (.int) := fun z => ⟨(RX0, TX0, 5), rfl, by decide, (bw 421 (by decide +kernel) rfl), rfl, by decide +kernel⟩
theorem pX0_25 : ∀ z, xFp (Cf z) RX0 25 0 4 (.int) := fun z => ⟨(RX0, TX0, 5), rfl, by decide, (bw 422 (by decide +kernel) rfl), rfl, by decide +kernel⟩
theorem fX1_9 : ∀ z, xFd (Cf z) RX1 9 1 0 := fun z => ⟨(RX1, TX1, 7), rfl, by decide, (bw 133 (by decide +kernel) rfl)⟩
theorem fX1_15 : ∀ z, xFd (Cf z) RX1 15 1 1 := fun z => ⟨(RX1, TX1, 7), rfl, by decide, (bw 135 (by decide +kernel) rfl)⟩
theorem fX1_18 : ∀ z, xFd (Cf z) RX1 18 1 2 := fun z => ⟨(RX1, TX1, 7), rfl, by decide, (bw 137 (by decide +kernel) rfl)⟩
theorem fX1_21 : ∀ z, xFd (Cf z) RX1 21 1 3 := fun z => ⟨(RX1, TX1, 7), rfl, by decide, (bw 139 (by decide +kernel) rfl)⟩
theorem fX1_25 : ∀ z, xFd (Cf z) RX1 25 1 4 := fun z => ⟨(RX1, TX1, 7), rfl, by decide, (bw 141 (by decide +kernel) rfl)⟩
theorem fX1_28 : ∀ z, xFd (Cf z) RX1 28 1 5 := fun z => ⟨(RX1, TX1, 7), rfl, by decide, (bw 143 (by decide +kernel) rfl)⟩
theorem fX1_31 : ∀ z, xFd (Cf z) RX1 31 1 6 := fun z => ⟨(RX1, TX1, 7), rfl, by decide, (bw 145 (by decide +kernel) rfl)⟩
theorem gX1_3 : ∀ z, Cond.methodLink RX1 3 objectInit ∈ (Cf z).1 := fun z => (bw 132 (by decide +kernel) rfl)
theorem gX1_38 : ∀ z, xCp (Cf z) RX1 38 := fun z => ⟨(bw 1224 (by decide +kernel) rfl), (bw 282 (by decide +kernel) rfl), (bw 281 (by decide +kernel) rfl), (bw 88 (by decide +kernel) rfl)⟩
theorem cmX1_add : ∀ z, xCm (Cf z) MX1_add 4 := fun z => ⟨(bw 83 (by decide +kernel) rfl), (bw 954 (by decide +kernel) rfl), by decide +kernel, by decide, by decide +kernel⟩
theorem gX1_34 : ∀ z, xCv (Cf z) RX1 34 MX1_add 4 := fun z => ⟨cmX1_add z, (bw 951 (by decide +kernel) rfl), (bw 953 (by decide +kernel) rfl), (bw 20 (by decide +kernel) rfl)⟩
theorem pX1_9 : ∀ z, xFp (Cf z) RX1 9 1 0 (.int) := fun z => ⟨(RX1, TX1, 7), rfl, by decide, (bw 133 (by decide +kernel) rfl), rfl, by decide +kernel⟩
theorem pX1_15 : ∀ z, xFp (Cf z) RX1 15 1 1 (.int) := fun z => ⟨(RX1, TX1, 7), rfl, by decide, (bw 135 (by decide +kernel) rfl), rfl, by decide +kernel⟩
theorem pX1_18 : ∀ z, xFp (Cf z) RX1 18 1 2 (.int) := fun z => ⟨(RX1, TX1, 7), rfl, by decide, (bw 137 (by decide +kernel) rfl), rfl, by decide +kernel⟩
theorem pX1_21 : ∀ z, xFf (Cf z) RX1 21 1 3 (.array .int) := fun z => ⟨(RX1, TX1, 7), rfl, by decide, (bw 139 (by decide +kernel) rfl), rfl, rfl, by decide +kernel⟩
theorem pX1_25 : ∀ z, xFf (Cf z) RX1 25 1 4 (.array .int) := fun z => ⟨(RX1, TX1, 7), rfl, by decide, (bw 141 (by decide +kernel) rfl), rfl, rfl, by decide +kernel⟩
theorem pX1_28 : ∀ z, xFf (Cf z) RX1 28 1 5 (.array .int) := fun z => ⟨(RX1, TX1, 7), rfl, by decide, (bw 143 (by decide +kernel) rfl), rfl, rfl, by decide +kernel⟩
theorem pX1_31 : ∀ z, xFf (Cf z) RX1 31 1 6 (.array .int) := fun z => ⟨(RX1, TX1, 7), rfl, by decide, (bw 145 (by decide +kernel) rfl), rfl, rfl, by decide +kernel⟩
theorem fX2_9 : ∀ z, xFd (Cf z) RX2 9 2 0 := fun z => ⟨(RX2, TX2, 4), rfl, by decide, (bw 169 (by decide +kernel) rfl)⟩
theorem fX2_15 : ∀ z, xFd (Cf z) RX2 15 2 1 := fun z => ⟨(RX2, TX2, 4), rfl, by decide, (bw 172 (by decide +kernel) rfl)⟩
theorem fX2_19 : ∀ z, xFd (Cf z) RX2 19 2 2 := fun z => ⟨(RX2, TX2, 4), rfl, by decide, (bw 174 (by decide +kernel) rfl)⟩
theorem fX2_22 : ∀ z, xFd (Cf z) RX2 22 2 3 := fun z => ⟨(RX2, TX2, 4), rfl, by decide, (bw 176 (by decide +kernel) rfl)⟩
theorem gX2_3 : ∀ z, Cond.methodLink RX2 3 objectInit ∈ (Cf z).1 := fun z => (bw 168 (by decide +kernel) rfl)
theorem gX2_25 : ∀ z, xCp (Cf z) RX2 25 := fun z => ⟨(bw 1229 (by decide +kernel) rfl), (bw 282 (by decide +kernel) rfl), (bw 281 (by decide +kernel) rfl), (bw 88 (by decide +kernel) rfl)⟩
theorem pX2_9 : ∀ z, xFp (Cf z) RX2 9 2 0 (.int) := fun z => ⟨(RX2, TX2, 4), rfl, by decide, (bw 169 (by decide +kernel) rfl), rfl, by decide +kernel⟩
theorem pX2_15 : ∀ z, xFf (Cf z) RX2 15 2 1 (.array .int) := fun z => ⟨(RX2, TX2, 4), rfl, by decide, (bw 172 (by decide +kernel) rfl), rfl, rfl, by decide +kernel⟩
theorem pX2_19 : ∀ z, xFf (Cf z) RX2 19 2 2 (.array .int) := fun z => ⟨(RX2, TX2, 4), rfl, by decide, (bw 174 (by decide +kernel) rfl), rfl, rfl, by decide +kernel⟩
theorem pX2_22 : ∀ z, xFf (Cf z) RX2 22 2 3 (.array .int) := fun z => ⟨(RX2, TX2, 4), rfl, by decide, (bw 176 (by decide +kernel) rfl), rfl, rfl, by decide +kernel⟩
theorem fX3_7 : ∀ z, xFd (Cf z) RX3 7 3 0 := fun z => ⟨(RX3, TX3, 5), rfl, by decide, (bw 192 (by decide +kernel) rfl)⟩
theorem fX3_13 : ∀ z, xFd (Cf z) RX3 13 3 1 := fun z => ⟨(RX3, TX3, 5), rfl, by decide, (bw 196 (by decide +kernel) rfl)⟩
theorem fX3_16 : ∀ z, xFd (Cf z) RX3 16 3 2 := fun z => ⟨(RX3, TX3, 5), rfl, by decide, (bw 197 (by decide +kernel) rfl)⟩
theorem fX3_19 : ∀ z, xFd (Cf z) RX3 19 3 3 := fun z => ⟨(RX3, TX3, 5), rfl, by decide, (bw 198 (by decide +kernel) rfl)⟩
theorem fX3_22 : ∀ z, xFd (Cf z) RX3 22 3 4 := fun z => ⟨(RX3, TX3, 5), rfl, by decide, (bw 199 (by decide +kernel) rfl)⟩
theorem gX3_1 : ∀ z, Cond.methodLink RX3 1 objectInit ∈ (Cf z).1 := fun z => (bw 191 (by decide +kernel) rfl)
theorem gX3_30 : ∀ z, xCs (Cf z) RX3 30 MJ9_abs_0f7a4 1 ∨ ∃ h, xCsN (Cf z) RX3 30 MJ9_abs_0f7a4 1 h := fun z => Or.inl ⟨cmJ9_abs_0f7a4 z, (bw 914 (by decide +kernel) rfl), (bw 644 (by decide +kernel) rfl)⟩
theorem cmX3_begin : ∀ z, xCm (Cf z) MX3_begin 5 := fun z => ⟨(bw 85 (by decide +kernel) rfl), (bw 619 (by decide +kernel) rfl), by decide +kernel, by decide, by decide +kernel⟩
theorem gX3_26 : ∀ z, xCv (Cf z) RX3 26 MX3_begin 5 := fun z => ⟨cmX3_begin z, (bw 1215 (by decide +kernel) rfl), (bw 617 (by decide +kernel) rfl), (bw 618 (by decide +kernel) rfl)⟩
theorem pX3_7 : ∀ z, xFp (Cf z) RX3 7 3 0 (.int) := fun z => ⟨(RX3, TX3, 5), rfl, by decide, (bw 192 (by decide +kernel) rfl), rfl, by decide +kernel⟩
theorem pX3_13 : ∀ z, xFp (Cf z) RX3 13 3 1 (.int) := fun z => ⟨(RX3, TX3, 5), rfl, by decide, (bw 196 (by decide +kernel) rfl), rfl, by decide +kernel⟩
theorem pX3_16 : ∀ z, xFp (Cf z) RX3 16 3 2 (.int) := fun z => ⟨(RX3, TX3, 5), rfl, by decide, (bw 197 (by decide +kernel) rfl), rfl, by decide +kernel⟩
theorem pX3_19 : ∀ z, xFp (Cf z) RX3 19 3 3 (.int) := fun z => ⟨(RX3, TX3, 5), rfl, by decide, (bw 198 (by decide +kernel) rfl), rfl, by decide +kernel⟩
theorem pX3_22 : ∀ z, xFp (Cf z) RX3 22 3 4 (.boolean) := fun z => ⟨(RX3, TX3, 5), rfl, by decide, (bw 199 (by decide +kernel) rfl), rfl, by decide +kernel⟩
theorem fX4_9 : ∀ z, xFd (Cf z) RX4 9 4 0 := fun z => ⟨(RX4, TX4, 6), rfl, by decide, (bw 258 (by decide +kernel) rfl)⟩
theorem fX4_15 : ∀ z, xFd (Cf z) RX4 15 4 1 := fun z => ⟨(RX4, TX4, 6), rfl, by decide, (bw 260 (by decide +kernel) rfl)⟩
theorem fX4_19 : ∀ z, xFd (Cf z) RX4 19 4 2 := fun z => ⟨(RX4, TX4, 6), rfl, by decide, (bw 261 (by decide +kernel) rfl)⟩
theorem fX4_22 : ∀ z, xFd (Cf z) RX4 22 4 3 := fun z => ⟨(RX4, TX4, 6), rfl, by decide, (bw 262 (by decide +kernel) rfl)⟩
theorem fX4_25 : ∀ z, xFd (Cf z) RX4 25 4 4 := fun z => ⟨(RX4, TX4, 6), rfl, by decide, (bw 263 (by decide +kernel) rfl)⟩
theorem fX4_28 : ∀ z, xFd (Cf z) RX4 28 4 5 := fun z => ⟨(RX4, TX4, 6), rfl, by decide, (bw 264 (by decide +kernel) rfl)⟩
theorem gX4_3 : ∀ z, Cond.methodLink RX4 3 objectInit ∈ (Cf z).1 := fun z => (bw 257 (by decide +kernel) rfl)
theorem gX4_31 : ∀ z, xCp (Cf z) RX4 31 := fun z => ⟨(bw 833 (by decide +kernel) rfl), (bw 282 (by decide +kernel) rfl), (bw 281 (by decide +kernel) rfl), (bw 88 (by decide +kernel) rfl)⟩
theorem gX4_41 : ∀ z, xCs (Cf z) RX4 41 MX10_bit 1 ∨ ∃ h, xCsN (Cf z) RX4 41 MX10_bit 1 h := fun z => Or.inr ⟨"HumUnheard", cmX10_bit z, nw 866 (by decide +kernel) rfl, (bw 647 (by decide +kernel) rfl)⟩
theorem cmX4_isOfHour : ∀ z, xCm (Cf z) MX4_isOfHour 2 := fun z => ⟨(bw 87 (by decide +kernel) rfl), (bw 865 (by decide +kernel) rfl), by decide +kernel, by decide, by decide +kernel⟩
theorem gX4_37 : ∀ z, xCv (Cf z) RX4 37 MX4_isOfHour 2 := fun z => ⟨cmX4_isOfHour z, (bw 862 (by decide +kernel) rfl), (bw 864 (by decide +kernel) rfl), (bw 16 (by decide +kernel) rfl)⟩
theorem pX4_9 : ∀ z, xFp (Cf z) RX4 9 4 0 (.int) := fun z => ⟨(RX4, TX4, 6), rfl, by decide, (bw 258 (by decide +kernel) rfl), rfl, by decide +kernel⟩
theorem pX4_15 : ∀ z, xFf (Cf z) RX4 15 4 1 (.array .int) := fun z => ⟨(RX4, TX4, 6), rfl, by decide, (bw 260 (by decide +kernel) rfl), rfl, rfl, by decide +kernel⟩
theorem pX4_19 : ∀ z, xFf (Cf z) RX4 19 4 2 (.array .int) := fun z => ⟨(RX4, TX4, 6), rfl, by decide, (bw 261 (by decide +kernel) rfl), rfl, rfl, by decide +kernel⟩
theorem pX4_22 : ∀ z, xFf (Cf z) RX4 22 4 3 (.array .int) := fun z => ⟨(RX4, TX4, 6), rfl, by decide, (bw 262 (by decide +kernel) rfl), rfl, rfl, by decide +kernel⟩
theorem pX4_25 : ∀ z, xFf (Cf z) RX4 25 4 4 (.array .int) := fun z => ⟨(RX4, TX4, 6), rfl, by decide, (bw 263 (by decide +kernel) rfl), rfl, rfl, by decide +kernel⟩
theorem pX4_28 : ∀ z, xFf (Cf z) RX4 28 4 5 (.array .int) := fun z => ⟨(RX4, TX4, 6), rfl, by decide, (bw 264 (by decide +kernel) rfl), rfl, rfl, by decide +kernel⟩
theorem fX5_9 : ∀ z, xFd (Cf z) RX5 9 5 0 := fun z => ⟨(RX5, TX5, 8), rfl, by decide, (bw 383 (by decide +kernel) rfl)⟩
theorem fX5_15 : ∀ z, xFd (Cf z) RX5 15 5 1 := fun z => ⟨(RX5, TX5, 8), rfl, by decide, (bw 384 (by decide +kernel) rfl)⟩
theorem fX5_19 : ∀ z, xFd (Cf z) RX5 19 5 2 := fun z => ⟨(RX5, TX5, 8), rfl, by decide, (bw 385 (by decide +kernel) rfl)⟩
theorem fX5_22 : ∀ z, xFd (Cf z) RX5 22 5 3 := fun z => ⟨(RX5, TX5, 8), rfl, by decide, (bw 386 (by decide +kernel) rfl)⟩
theorem fX5_25 : ∀ z, xFd (Cf z) RX5 25 5 4 := fun z => ⟨(RX5, TX5, 8), rfl, by decide, (bw 387 (by decide +kernel) rfl)⟩
theorem fX5_28 : ∀ z, xFd (Cf z) RX5 28 5 5 := fun z => ⟨(RX5, TX5, 8), rfl, by decide, (bw 389 (by decide +kernel) rfl)⟩
theorem fX5_31 : ∀ z, xFd (Cf z) RX5 31 5 6 := fun z => ⟨(RX5, TX5, 8), rfl, by decide, (bw 391 (by decide +kernel) rfl)⟩
theorem fX5_37 : ∀ z, xFd (Cf z) RX5 37 5 7 := fun z => ⟨(RX5, TX5, 8), rfl, by decide, (bw 393 (by decide +kernel) rfl)⟩
theorem sX5_109 : ∀ z, Cond.fieldLinkNest RX5 109 "HumUnheard" "LEAST_LAWS" "[I" "HumUnheard" ∈ (Cf z).2.1 := fun z => nw 781 (by decide +kernel) rfl
theorem sX5_112 : ∀ z, Cond.fieldLinkNest RX5 112 "HumUnheard" "MOST_LAWS" "[I" "HumUnheard" ∈ (Cf z).2.1 := fun z => nw 783 (by decide +kernel) rfl
theorem gX5_3 : ∀ z, Cond.methodLink RX5 3 objectInit ∈ (Cf z).1 := fun z => (bw 380 (by decide +kernel) rfl)
theorem cmX4_init : ∀ z, xCm (Cf z) MX4_init 0 := fun z => ⟨(bw 87 (by decide +kernel) rfl), (bw 256 (by decide +kernel) rfl), by decide +kernel, by decide, by decide +kernel⟩
theorem gX5_36 : ∀ z, xCi (Cf z) RX5 36 MX4_init 0 ∨ ∃ h, xCiN (Cf z) RX5 36 MX4_init 0 h := fun z => Or.inr ⟨"HumUnheard", cmX4_init z, nw 382 (by decide +kernel) rfl, (bw 255 (by decide +kernel) rfl), rfl, rfl⟩
theorem gX5_45 : ∀ z, xCp (Cf z) RX5 45 := fun z => ⟨(bw 699 (by decide +kernel) rfl), (bw 282 (by decide +kernel) rfl), (bw 281 (by decide +kernel) rfl), (bw 88 (by decide +kernel) rfl)⟩
theorem gX5_94 : ∀ z, xCs (Cf z) RX5 94 MX10_isWithin 3 ∨ ∃ h, xCsN (Cf z) RX5 94 MX10_isWithin 3 h := fun z => Or.inr ⟨"HumUnheard", cmX10_isWithin z, nw 793 (by decide +kernel) rfl, (bw 483 (by decide +kernel) rfl)⟩
theorem cmX5_lawName : ∀ z, xCm (Cf z) MX5_lawName 1 := fun z => ⟨(bw 89 (by decide +kernel) rfl), (bw 706 (by decide +kernel) rfl), by decide +kernel, by decide, by decide +kernel⟩
theorem gX5_98 : ∀ z, xCs (Cf z) RX5 98 MX5_lawName 1 ∨ ∃ h, xCsN (Cf z) RX5 98 MX5_lawName 1 h := fun z => Or.inl ⟨cmX5_lawName z, (bw 704 (by decide +kernel) rfl), (bw 705 (by decide +kernel) rfl)⟩
theorem cmX5_begin : ∀ z, xCm (Cf z) MX5_begin 1 := fun z => ⟨(bw 89 (by decide +kernel) rfl), (bw 689 (by decide +kernel) rfl), by decide +kernel, by decide, by decide +kernel⟩
theorem gX5_41 : ∀ z, xCv (Cf z) RX5 41 MX5_begin 1 := fun z => ⟨cmX5_begin z, (bw 686 (by decide +kernel) rfl), (bw 688 (by decide +kernel) rfl), (bw 4 (by decide +kernel) rfl)⟩
theorem cmX5_readLaw : ∀ z, xCm (Cf z) MX5_readLaw 0 := fun z => ⟨(bw 89 (by decide +kernel) rfl), (bw 703 (by decide +kernel) rfl), by decide +kernel, by decide, by decide +kernel⟩
theorem gX5_51 : ∀ z, xCv (Cf z) RX5 51 MX5_readLaw 0 := fun z => ⟨cmX5_readLaw z, (bw 700 (by decide +kernel) rfl), (bw 702 (by decide +kernel) rfl), (bw 5 (by decide +kernel) rfl)⟩
theorem cmX5_goesOn : ∀ z, xCm (Cf z) MX5_goesOn 0 := fun z => ⟨(bw 89 (by decide +kernel) rfl), (bw 797 (by decide +kernel) rfl), by decide +kernel, by decide, by decide +kernel⟩
theorem gX5_55 : ∀ z, xCv (Cf z) RX5 55 MX5_goesOn 0 := fun z => ⟨cmX5_goesOn z, (bw 794 (by decide +kernel) rfl), (bw 796 (by decide +kernel) rfl), (bw 13 (by decide +kernel) rfl)⟩
theorem cmX5_readItem : ∀ z, xCm (Cf z) MX5_readItem 1 := fun z => ⟨(bw 89 (by decide +kernel) rfl), (bw 815 (by decide +kernel) rfl), by decide +kernel, by decide, by decide +kernel⟩
theorem gX5_59 : ∀ z, xCv (Cf z) RX5 59 MX5_readItem 1 := fun z => ⟨cmX5_readItem z, (bw 812 (by decide +kernel) rfl), (bw 814 (by decide +kernel) rfl), (bw 14 (by decide +kernel) rfl)⟩
theorem cmX5_failAt : ∀ z, xCm (Cf z) MX5_failAt 1 := fun z => ⟨(bw 89 (by decide +kernel) rfl), (bw 780 (by decide +kernel) rfl), by decide +kernel, by decide, by decide +kernel⟩
theorem gX5_63 : ∀ z, xCv (Cf z) RX5 63 MX5_failAt 1 := fun z => ⟨cmX5_failAt z, (bw 777 (by decide +kernel) rfl), (bw 779 (by decide +kernel) rfl), (bw 10 (by decide +kernel) rfl)⟩
theorem cmX7_count : ∀ z, xCm (Cf z) MX7_count 0 := fun z => ⟨(bw 91 (by decide +kernel) rfl), (bw 693 (by decide +kernel) rfl), by decide +kernel, by decide, by decide +kernel⟩
theorem gX5_66 : ∀ z, xCv (Cf z) RX5 66 MX7_count 0 := fun z => ⟨cmX7_count z, (bw 690 (by decide +kernel) rfl), (bw 691 (by decide +kernel) rfl), (bw 692 (by decide +kernel) rfl)⟩
theorem cmX7_intAt : ∀ z, xCm (Cf z) MX7_intAt 1 := fun z => ⟨(bw 91 (by decide +kernel) rfl), (bw 697 (by decide +kernel) rfl), by decide +kernel, by decide, by decide +kernel⟩
theorem gX5_71 : ∀ z, xCv (Cf z) RX5 71 MX7_intAt 1 := fun z => ⟨cmX7_intAt z, (bw 694 (by decide +kernel) rfl), (bw 695 (by decide +kernel) rfl), (bw 696 (by decide +kernel) rfl)⟩
theorem cmX5_isNext : ∀ z, xCm (Cf z) MX5_isNext 1 := fun z => ⟨(bw 89 (by decide +kernel) rfl), (bw 756 (by decide +kernel) rfl), by decide +kernel, by decide, by decide +kernel⟩
theorem gX5_75 : ∀ z, xCv (Cf z) RX5 75 MX5_isNext 1 := fun z => ⟨cmX5_isNext z, (bw 753 (by decide +kernel) rfl), (bw 755 (by decide +kernel) rfl), (bw 6 (by decide +kernel) rfl)⟩
theorem cmJ0_length_8abf5 : ∀ z, xCm (Cf z) MJ0_length_8abf5 0 := fun z => ⟨(bw 94 (by decide +kernel) rfl), (bw 768 (by decide +kernel) rfl), by decide +kernel, by decide, by decide +kernel⟩
theorem gX5_79 : ∀ z, xCv (Cf z) RX5 79 MJ0_length_8abf5 0 := fun z => ⟨cmJ0_length_8abf5 z, (bw 765 (by decide +kernel) rfl), (bw 766 (by decide +kernel) rfl), (bw 767 (by decide +kernel) rfl)⟩
theorem cmJ0_charAt_5068e : ∀ z, xCm (Cf z) MJ0_charAt_5068e 1 := fun z => ⟨(bw 94 (by decide +kernel) rfl), (bw 716 (by decide +kernel) rfl), by decide +kernel, by decide, by decide +kernel⟩
theorem gX5_84 : ∀ z, xCv (Cf z) RX5 84 MJ0_charAt_5068e 1 := fun z => ⟨cmJ0_charAt_5068e z, (bw 713 (by decide +kernel) rfl), (bw 714 (by decide +kernel) rfl), (bw 715 (by decide +kernel) rfl)⟩
theorem cmX5_take : ∀ z, xCm (Cf z) MX5_take 1 := fun z => ⟨(bw 89 (by decide +kernel) rfl), (bw 776 (by decide +kernel) rfl), by decide +kernel, by decide, by decide +kernel⟩
theorem gX5_88 : ∀ z, xCv (Cf z) RX5 88 MX5_take 1 := fun z => ⟨cmX5_take z, (bw 773 (by decide +kernel) rfl), (bw 775 (by decide +kernel) rfl), (bw 9 (by decide +kernel) rfl)⟩
theorem cmX5_isDigitNext : ∀ z, xCm (Cf z) MX5_isDigitNext 0 := fun z => ⟨(bw 89 (by decide +kernel) rfl), (bw 792 (by decide +kernel) rfl), by decide +kernel, by decide, by decide +kernel⟩
theorem gX5_91 : ∀ z, xCv (Cf z) RX5 91 MX5_isDigitNext 0 := fun z => ⟨cmX5_isDigitNext z, (bw 789 (by decide +kernel) rfl), (bw 791 (by decide +kernel) rfl), (bw 12 (by decide +kernel) rfl)⟩
theorem cmX5_readLawOf : ∀ z, xCm (Cf z) MX5_readLawOf 1 := fun z => ⟨(bw 89 (by decide +kernel) rfl), (bw 760 (by decide +kernel) rfl), by decide +kernel, by decide, by decide +kernel⟩
theorem gX5_102 : ∀ z, xCv (Cf z) RX5 102 MX5_readLawOf 1 := fun z => ⟨cmX5_readLawOf z, (bw 757 (by decide +kernel) rfl), (bw 759 (by decide +kernel) rfl), (bw 7 (by decide +kernel) rfl)⟩
theorem cmX5_takeAll : ∀ z, xCm (Cf z) MX5_takeAll 1 := fun z => ⟨(bw 89 (by decide +kernel) rfl), (bw 764 (by decide +kernel) rfl), by decide +kernel, by decide, by decide +kernel⟩
theorem gX5_105 : ∀ z, xCv (Cf z) RX5 105 MX5_takeAll 1 := fun z => ⟨cmX5_takeAll z, (bw 761 (by decide +kernel) rfl), (bw 763 (by decide +kernel) rfl), (bw 8 (by decide +kernel) rfl)⟩
theorem cmX5_readNumber : ∀ z, xCm (Cf z) MX5_readNumber 2 := fun z => ⟨(bw 89 (by decide +kernel) rfl), (bw 788 (by decide +kernel) rfl), by decide +kernel, by decide, by decide +kernel⟩
theorem gX5_115 : ∀ z, xCv (Cf z) RX5 115 MX5_readNumber 2 := fun z => ⟨cmX5_readNumber z, (bw 785 (by decide +kernel) rfl), (bw 787 (by decide +kernel) rfl), (bw 11 (by decide +kernel) rfl)⟩
theorem cmX4_add : ∀ z, xCm (Cf z) MX4_add 5 := fun z => ⟨(bw 87 (by decide +kernel) rfl), (bw 824 (by decide +kernel) rfl), by decide +kernel, by decide, by decide +kernel⟩
theorem gX5_141 : ∀ z, xCv (Cf z) RX5 141 MX4_add 5 := fun z => ⟨cmX4_add z, (bw 821 (by decide +kernel) rfl), (bw 822 (by decide +kernel) rfl), (bw 823 (by decide +kernel) rfl)⟩
theorem kX5_119 : ∀ z : xZ, (RX5, 119, "loss ", z.2.1 (5 + 0)) ∈ (Cf z).2.2.2.2.2.2.2.2 := fun z => List.mem_map.mpr ⟨0, by decide, rfl⟩
theorem kX5_121 : ∀ z : xZ, (RX5, 121, "gain ", z.2.1 (5 + 1)) ∈ (Cf z).2.2.2.2.2.2.2.2 := fun z => List.mem_map.mpr ⟨1, by decide, rfl⟩
theorem kX5_123 : ∀ z : xZ, (RX5, 123, "right ", z.2.1 (5 + 2)) ∈ (Cf z).2.2.2.2.2.2.2.2 := fun z => List.mem_map.mpr ⟨2, by decide, rfl⟩
theorem kX5_125 : ∀ z : xZ, (RX5, 125, "wrong ", z.2.1 (5 + 3)) ∈ (Cf z).2.2.2.2.2.2.2.2 := fun z => List.mem_map.mpr ⟨3, by decide, rfl⟩
theorem kX5_127 : ∀ z : xZ, (RX5, 127, "span ", z.2.1 (5 + 4)) ∈ (Cf z).2.2.2.2.2.2.2.2 := fun z => List.mem_map.mpr ⟨4, by decide, rfl⟩
theorem kX5_129 : ∀ z : xZ, (RX5, 129, "paper ", z.2.1 (5 + 5)) ∈ (Cf z).2.2.2.2.2.2.2.2 := fun z => List.mem_map.mpr ⟨5, by decide, rfl⟩
theorem kX5_131 : ∀ z : xZ, (RX5, 131, "ff ", z.2.1 (5 + 6)) ∈ (Cf z).2.2.2.2.2.2.2.2 := fun z => List.mem_map.mpr ⟨6, by decide, rfl⟩
theorem kX5_133 : ∀ z : xZ, (RX5, 133, "n ", z.2.1 (5 + 7)) ∈ (Cf z).2.2.2.2.2.2.2.2 := fun z => List.mem_map.mpr ⟨7, by decide, rfl⟩
theorem kX5_135 : ∀ z : xZ, (RX5, 135, " from ", z.2.1 (5 + 8)) ∈ (Cf z).2.2.2.2.2.2.2.2 := fun z => List.mem_map.mpr ⟨8, by decide, rfl⟩
theorem kX5_137 : ∀ z : xZ, (RX5, 137, " to ", z.2.1 (5 + 9)) ∈ (Cf z).2.2.2.2.2.2.2.2 := fun z => List.mem_map.mpr ⟨9, by decide, rfl⟩
theorem kX5_139 : ∀ z : xZ, (RX5, 139, " each ", z.2.1 (5 + 10)) ∈ (Cf z).2.2.2.2.2.2.2.2 := fun z => List.mem_map.mpr ⟨10, by decide, rfl⟩
theorem nX5_34 : ∀ z, Cond.classLink RX5 34 RX4 ∈ (Cf z).1 ∧ Cond.instantiable RX4 6 ∈ (Cf z).1 ∧ Cond.initialized RX4 ∈ (Cf z).1 := fun z => ⟨(bw 381 (by decide +kernel) rfl), (bw 253 (by decide +kernel) rfl), (bw 87 (by decide +kernel) rfl)⟩
theorem pX5_9 : ∀ z, xFf (Cf z) RX5 9 5 0 (.array .int) := fun z => ⟨(RX5, TX5, 8), rfl, by decide, (bw 383 (by decide +kernel) rfl), rfl, rfl, by decide +kernel⟩
theorem pX5_15 : ∀ z, xFp (Cf z) RX5 15 5 1 (.int) := fun z => ⟨(RX5, TX5, 8), rfl, by decide, (bw 384 (by decide +kernel) rfl), rfl, by decide +kernel⟩
theorem pX5_19 : ∀ z, xFp (Cf z) RX5 19 5 2 (.int) := fun z => ⟨(RX5, TX5, 8), rfl, by decide, (bw 385 (by decide +kernel) rfl), rfl, by decide +kernel⟩
theorem pX5_22 : ∀ z, xFp (Cf z) RX5 22 5 3 (.int) := fun z => ⟨(RX5, TX5, 8), rfl, by decide, (bw 386 (by decide +kernel) rfl), rfl, by decide +kernel⟩
theorem pX5_25 : ∀ z, xFp (Cf z) RX5 25 5 4 (.int) := fun z => ⟨(RX5, TX5, 8), rfl, by decide, (bw 387 (by decide +kernel) rfl), rfl, by decide +kernel⟩
theorem pX5_28 : ∀ z, xFp (Cf z) RX5 28 5 5 (.int) := fun z => ⟨(RX5, TX5, 8), rfl, by decide, (bw 389 (by decide +kernel) rfl), rfl, by decide +kernel⟩
theorem pX5_31 : ∀ z, xFf (Cf z) RX5 31 5 6 (.array .int) := fun z => ⟨(RX5, TX5, 8), rfl, by decide, (bw 391 (by decide +kernel) rfl), rfl, rfl, by decide +kernel⟩
theorem pX5_37 : ∀ z, xFf (Cf z) RX5 37 5 7 (.object "HumUnheard$Plan") := fun z => ⟨(RX5, TX5, 8), rfl, by decide, (bw 393 (by decide +kernel) rfl), rfl, rfl, by decide +kernel⟩
theorem pX5_58 : ∀ z, xFp (Cf z) RX5 58 4 0 (.int) := fun z => ⟨(RX4, TX4, 6), rfl, by decide, (bw 259 (by decide +kernel) rfl), rfl, by decide +kernel⟩
theorem fX6_12 : ∀ z, xFd (Cf z) RX6 12 6 0 := fun z => ⟨(RX6, TX6, 8), rfl, by decide, (bw 345 (by decide +kernel) rfl)⟩
theorem fX6_18 : ∀ z, xFd (Cf z) RX6 18 6 1 := fun z => ⟨(RX6, TX6, 8), rfl, by decide, (bw 347 (by decide +kernel) rfl)⟩
theorem fX6_22 : ∀ z, xFd (Cf z) RX6 22 6 2 := fun z => ⟨(RX6, TX6, 8), rfl, by decide, (bw 349 (by decide +kernel) rfl)⟩
theorem fX6_26 : ∀ z, xFd (Cf z) RX6 26 6 3 := fun z => ⟨(RX6, TX6, 8), rfl, by decide, (bw 350 (by decide +kernel) rfl)⟩
theorem fX6_30 : ∀ z, xFd (Cf z) RX6 30 6 4 := fun z => ⟨(RX6, TX6, 8), rfl, by decide, (bw 351 (by decide +kernel) rfl)⟩
theorem fX6_33 : ∀ z, xFd (Cf z) RX6 33 6 5 := fun z => ⟨(RX6, TX6, 8), rfl, by decide, (bw 352 (by decide +kernel) rfl)⟩
theorem fX6_36 : ∀ z, xFd (Cf z) RX6 36 6 6 := fun z => ⟨(RX6, TX6, 8), rfl, by decide, (bw 353 (by decide +kernel) rfl)⟩
theorem fX6_39 : ∀ z, xFd (Cf z) RX6 39 6 7 := fun z => ⟨(RX6, TX6, 8), rfl, by decide, (bw 354 (by decide +kernel) rfl)⟩
theorem fX6_42 : ∀ z, xFd (Cf z) RX6 42 9 2 := fun z => ⟨(RX9, TX9, 14), rfl, by decide, (bw 289 (by decide +kernel) rfl)⟩
theorem fX6_45 : ∀ z, xFd (Cf z) RX6 45 9 9 := fun z => ⟨(RX9, TX9, 14), rfl, by decide, (bw 305 (by decide +kernel) rfl)⟩
theorem fX6_49 : ∀ z, xFd (Cf z) RX6 49 1 0 := fun z => ⟨(RX1, TX1, 7), rfl, by decide, (bw 134 (by decide +kernel) rfl)⟩
theorem fX6_54 : ∀ z, xFd (Cf z) RX6 54 1 3 := fun z => ⟨(RX1, TX1, 7), rfl, by decide, (bw 140 (by decide +kernel) rfl)⟩
theorem fX6_69 : ∀ z, xFd (Cf z) RX6 69 1 6 := fun z => ⟨(RX1, TX1, 7), rfl, by decide, (bw 146 (by decide +kernel) rfl)⟩
theorem fX6_76 : ∀ z, xFd (Cf z) RX6 76 1 5 := fun z => ⟨(RX1, TX1, 7), rfl, by decide, (bw 144 (by decide +kernel) rfl)⟩
theorem fX6_82 : ∀ z, xFd (Cf z) RX6 82 1 4 := fun z => ⟨(RX1, TX1, 7), rfl, by decide, (bw 142 (by decide +kernel) rfl)⟩
theorem fX6_88 : ∀ z, xFd (Cf z) RX6 88 9 13 := fun z => ⟨(RX9, TX9, 14), rfl, by decide, (bw 314 (by decide +kernel) rfl)⟩
theorem fX6_100 : ∀ z, xFd (Cf z) RX6 100 9 1 := fun z => ⟨(RX9, TX9, 14), rfl, by decide, (bw 286 (by decide +kernel) rfl)⟩
theorem fX6_106 : ∀ z, xFd (Cf z) RX6 106 9 6 := fun z => ⟨(RX9, TX9, 14), rfl, by decide, (bw 298 (by decide +kernel) rfl)⟩
theorem fX6_110 : ∀ z, xFd (Cf z) RX6 110 3 0 := fun z => ⟨(RX3, TX3, 5), rfl, by decide, (bw 193 (by decide +kernel) rfl)⟩
theorem fX6_129 : ∀ z, xFd (Cf z) RX6 129 9 7 := fun z => ⟨(RX9, TX9, 14), rfl, by decide, (bw 302 (by decide +kernel) rfl)⟩
theorem fX6_133 : ∀ z, xFd (Cf z) RX6 133 8 6 := fun z => ⟨(RX8, TX8, 8), rfl, by decide, (bw 232 (by decide +kernel) rfl)⟩
theorem gX6_3 : ∀ z, Cond.methodLink RX6 3 objectInit ∈ (Cf z).1 := fun z => (bw 114 (by decide +kernel) rfl)
theorem gX6_11 : ∀ z, xCi (Cf z) RX6 11 MX9_init 0 ∨ ∃ h, xCiN (Cf z) RX6 11 MX9_init 0 h := fun z => Or.inl ⟨cmX9_init z, (bw 117 (by decide +kernel) rfl), (bw 118 (by decide +kernel) rfl), rfl, rfl⟩
theorem gX6_91 : ∀ z, xCs (Cf z) RX6 91 MX10_hasBit 2 ∨ ∃ h, xCsN (Cf z) RX6 91 MX10_hasBit 2 h := fun z => Or.inr ⟨"HumUnheard", cmX10_hasBit z, nw 1018 (by decide +kernel) rfl, (bw 877 (by decide +kernel) rfl)⟩
theorem cmJ6_bitCount_0f7a4 : ∀ z, xCm (Cf z) MJ6_bitCount_0f7a4 1 := fun z => ⟨(bw 98 (by decide +kernel) rfl), (bw 1121 (by decide +kernel) rfl), by decide +kernel, by decide, by decide +kernel⟩
theorem gX6_149 : ∀ z, xCs (Cf z) RX6 149 MJ6_bitCount_0f7a4 1 ∨ ∃ h, xCsN (Cf z) RX6 149 MJ6_bitCount_0f7a4 1 h := fun z => Or.inl ⟨cmJ6_bitCount_0f7a4 z, (bw 1157 (by decide +kernel) rfl), (bw 1120 (by decide +kernel) rfl)⟩
theorem cmX10_farApart : ∀ z, xCm (Cf z) MX10_farApart 2 := fun z => ⟨(bw 80 (by decide +kernel) rfl), (bw 898 (by decide +kernel) rfl), by decide +kernel, by decide, by decide +kernel⟩
theorem gX6_154 : ∀ z, xCs (Cf z) RX6 154 MX10_farApart 2 ∨ ∃ h, xCsN (Cf z) RX6 154 MX10_farApart 2 h := fun z => Or.inr ⟨"HumUnheard", cmX10_farApart z, nw 1158 (by decide +kernel) rfl, (bw 897 (by decide +kernel) rfl)⟩
theorem cmX6_agreeing : ∀ z, xCm (Cf z) MX6_agreeing 2 := fun z => ⟨(bw 81 (by decide +kernel) rfl), (bw 1002 (by decide +kernel) rfl), by decide +kernel, by decide, by decide +kernel⟩
theorem gX6_57 : ∀ z, xCv (Cf z) RX6 57 MX6_agreeing 2 := fun z => ⟨cmX6_agreeing z, (bw 999 (by decide +kernel) rfl), (bw 1001 (by decide +kernel) rfl), (bw 21 (by decide +kernel) rfl)⟩
theorem cmX6_multiply : ∀ z, xCm (Cf z) MX6_multiply 1 := fun z => ⟨(bw 81 (by decide +kernel) rfl), (bw 1017 (by decide +kernel) rfl), by decide +kernel, by decide, by decide +kernel⟩
theorem gX6_61 : ∀ z, xCv (Cf z) RX6 61 MX6_multiply 1 := fun z => ⟨cmX6_multiply z, (bw 1014 (by decide +kernel) rfl), (bw 1016 (by decide +kernel) rfl), (bw 22 (by decide +kernel) rfl)⟩
theorem cmX1_isMatch : ∀ z, xCm (Cf z) MX1_isMatch 1 := fun z => ⟨(bw 83 (by decide +kernel) rfl), (bw 1006 (by decide +kernel) rfl), by decide +kernel, by decide, by decide +kernel⟩
theorem gX6_65 : ∀ z, xCv (Cf z) RX6 65 MX1_isMatch 1 := fun z => ⟨cmX1_isMatch z, (bw 1003 (by decide +kernel) rfl), (bw 1004 (by decide +kernel) rfl), (bw 1005 (by decide +kernel) rfl)⟩
theorem gX6_72 : ∀ z, xCv (Cf z) RX6 72 MX9_nearTo 1 := fun z => ⟨cmX9_nearTo z, (bw 1007 (by decide +kernel) rfl), (bw 1008 (by decide +kernel) rfl), (bw 1009 (by decide +kernel) rfl)⟩
theorem gX6_79 : ∀ z, xCv (Cf z) RX6 79 MX9_audibleTo 2 := fun z => ⟨cmX9_audibleTo z, (bw 1012 (by decide +kernel) rfl), (bw 924 (by decide +kernel) rfl), (bw 925 (by decide +kernel) rfl)⟩
theorem gX6_85 : ∀ z, xCv (Cf z) RX6 85 MX9_soundingAt 1 := fun z => ⟨cmX9_soundingAt z, (bw 1013 (by decide +kernel) rfl), (bw 847 (by decide +kernel) rfl), (bw 848 (by decide +kernel) rfl)⟩
theorem gX6_97 : ∀ z, xCv (Cf z) RX6 97 MX9_soundingWithin 2 := fun z => ⟨cmX9_soundingWithin z, (bw 1070 (by decide +kernel) rfl), (bw 1071 (by decide +kernel) rfl), (bw 1072 (by decide +kernel) rfl)⟩
theorem cmX6_heardOf : ∀ z, xCm (Cf z) MX6_heardOf 2 := fun z => ⟨(bw 81 (by decide +kernel) rfl), (bw 1077 (by decide +kernel) rfl), by decide +kernel, by decide, by decide +kernel⟩
theorem gX6_103 : ∀ z, xCv (Cf z) RX6 103 MX6_heardOf 2 := fun z => ⟨cmX6_heardOf z, (bw 1074 (by decide +kernel) rfl), (bw 1076 (by decide +kernel) rfl), (bw 23 (by decide +kernel) rfl)⟩
theorem gX6_114 : ∀ z, xCv (Cf z) RX6 114 MX9_airborne 0 := fun z => ⟨cmX9_airborne z, (bw 1086 (by decide +kernel) rfl), (bw 1033 (by decide +kernel) rfl), (bw 1034 (by decide +kernel) rfl)⟩
theorem cmX6_choose : ∀ z, xCm (Cf z) MX6_choose 4 := fun z => ⟨(bw 81 (by decide +kernel) rfl), (bw 1090 (by decide +kernel) rfl), by decide +kernel, by decide, by decide +kernel⟩
theorem gX6_118 : ∀ z, xCv (Cf z) RX6 118 MX6_choose 4 := fun z => ⟨cmX6_choose z, (bw 1087 (by decide +kernel) rfl), (bw 1089 (by decide +kernel) rfl), (bw 24 (by decide +kernel) rfl)⟩
theorem cmX6_keepIfBetter : ∀ z, xCm (Cf z) MX6_keepIfBetter 3 := fun z => ⟨(bw 81 (by decide +kernel) rfl), (bw 1094 (by decide +kernel) rfl), by decide +kernel, by decide, by decide +kernel⟩
theorem gX6_122 : ∀ z, xCv (Cf z) RX6 122 MX6_keepIfBetter 3 := fun z => ⟨cmX6_keepIfBetter z, (bw 1091 (by decide +kernel) rfl), (bw 1093 (by decide +kernel) rfl), (bw 25 (by decide +kernel) rfl)⟩
theorem cmX6_priceOf : ∀ z, xCm (Cf z) MX6_priceOf 1 := fun z => ⟨(bw 81 (by decide +kernel) rfl), (bw 1098 (by decide +kernel) rfl), by decide +kernel, by decide, by decide +kernel⟩
theorem gX6_126 : ∀ z, xCv (Cf z) RX6 126 MX6_priceOf 1 := fun z => ⟨cmX6_priceOf z, (bw 1095 (by decide +kernel) rfl), (bw 1097 (by decide +kernel) rfl), (bw 26 (by decide +kernel) rfl)⟩
theorem cmX8_isAirborne : ∀ z, xCm (Cf z) MX8_isAirborne 0 := fun z => ⟨(bw 86 (by decide +kernel) rfl), (bw 895 (by decide +kernel) rfl), by decide +kernel, by decide, by decide +kernel⟩
theorem gX6_138 : ∀ z, xCv (Cf z) RX6 138 MX8_isAirborne 0 := fun z => ⟨cmX8_isAirborne z, (bw 1138 (by decide +kernel) rfl), (bw 893 (by decide +kernel) rfl), (bw 894 (by decide +kernel) rfl)⟩
theorem gX6_142 : ∀ z, xCv (Cf z) RX6 142 MX9_levelAt 2 := fun z => ⟨cmX9_levelAt z, (bw 1139 (by decide +kernel) rfl), (bw 889 (by decide +kernel) rfl), (bw 890 (by decide +kernel) rfl)⟩
theorem gX6_145 : ∀ z, xCv (Cf z) RX6 145 MX6_countMetered 3 := fun z => ⟨cmX6_countMetered z, (bw 1148 (by decide +kernel) rfl), (bw 1135 (by decide +kernel) rfl), (bw 1136 (by decide +kernel) rfl)⟩
theorem kX6_95 : ∀ z, Cond.constantLong RX6 95 100 ∈ (Cf z).1 := fun z => (bw 1027 (by decide +kernel) rfl)
theorem nX6_9 : ∀ z, Cond.classLink RX6 9 RX9 ∈ (Cf z).1 ∧ Cond.instantiable RX9 14 ∈ (Cf z).1 ∧ Cond.initialized RX9 ∈ (Cf z).1 := fun z => ⟨(bw 115 (by decide +kernel) rfl), (bw 116 (by decide +kernel) rfl), (bw 82 (by decide +kernel) rfl)⟩
theorem pX6_12 : ∀ z, xFf (Cf z) RX6 12 6 0 (.object "HumUnheard$Town") := fun z => ⟨(RX6, TX6, 8), rfl, by decide, (bw 345 (by decide +kernel) rfl), rfl, rfl, by decide +kernel⟩
theorem pX6_18 : ∀ z, xFf (Cf z) RX6 18 6 1 (.array .long) := fun z => ⟨(RX6, TX6, 8), rfl, by decide, (bw 347 (by decide +kernel) rfl), rfl, rfl, by decide +kernel⟩
theorem pX6_22 : ∀ z, xFf (Cf z) RX6 22 6 2 (.array .int) := fun z => ⟨(RX6, TX6, 8), rfl, by decide, (bw 349 (by decide +kernel) rfl), rfl, rfl, by decide +kernel⟩
theorem pX6_26 : ∀ z, xFp (Cf z) RX6 26 6 3 (.int) := fun z => ⟨(RX6, TX6, 8), rfl, by decide, (bw 350 (by decide +kernel) rfl), rfl, by decide +kernel⟩
theorem pX6_30 : ∀ z, xFp (Cf z) RX6 30 6 4 (.int) := fun z => ⟨(RX6, TX6, 8), rfl, by decide, (bw 351 (by decide +kernel) rfl), rfl, by decide +kernel⟩
theorem pX6_33 : ∀ z, xFp (Cf z) RX6 33 6 5 (.int) := fun z => ⟨(RX6, TX6, 8), rfl, by decide, (bw 352 (by decide +kernel) rfl), rfl, by decide +kernel⟩
theorem pX6_36 : ∀ z, xFp (Cf z) RX6 36 6 6 (.int) := fun z => ⟨(RX6, TX6, 8), rfl, by decide, (bw 353 (by decide +kernel) rfl), rfl, by decide +kernel⟩
theorem pX6_39 : ∀ z, xFp (Cf z) RX6 39 6 7 (.int) := fun z => ⟨(RX6, TX6, 8), rfl, by decide, (bw 354 (by decide +kernel) rfl), rfl, by decide +kernel⟩
theorem fX7_9 : ∀ z, xFd (Cf z) RX7 9 7 0 := fun z => ⟨(RX7, TX7, 3), rfl, by decide, (bw 440 (by decide +kernel) rfl)⟩
theorem fX7_15 : ∀ z, xFd (Cf z) RX7 15 7 1 := fun z => ⟨(RX7, TX7, 3), rfl, by decide, (bw 441 (by decide +kernel) rfl)⟩
theorem fX7_18 : ∀ z, xFd (Cf z) RX7 18 7 2 := fun z => ⟨(RX7, TX7, 3), rfl, by decide, (bw 442 (by decide +kernel) rfl)⟩
theorem gX7_3 : ∀ z, Cond.methodLink RX7 3 objectInit ∈ (Cf z).1 := fun z => (bw 439 (by decide +kernel) rfl)
theorem gX7_45 : ∀ z, xCp (Cf z) RX7 45 := fun z => ⟨(bw 544 (by decide +kernel) rfl), (bw 282 (by decide +kernel) rfl), (bw 281 (by decide +kernel) rfl), (bw 88 (by decide +kernel) rfl)⟩
theorem gX7_22 : ∀ z, xCv (Cf z) RX7 22 MX7_holdsNothing 0 := fun z => ⟨cmX7_holdsNothing z, (bw 505 (by decide +kernel) rfl), (bw 506 (by decide +kernel) rfl), (bw 507 (by decide +kernel) rfl)⟩
theorem gX7_26 : ∀ z, xCv (Cf z) RX7 26 MX7_holdsRow 0 := fun z => ⟨cmX7_holdsRow z, (bw 509 (by decide +kernel) rfl), (bw 510 (by decide +kernel) rfl), (bw 511 (by decide +kernel) rfl)⟩
theorem gX7_29 : ∀ z, xCv (Cf z) RX7 29 MX7_hasElement 1 := fun z => ⟨cmX7_hasElement z, (bw 522 (by decide +kernel) rfl), (bw 515 (by decide +kernel) rfl), (bw 516 (by decide +kernel) rfl)⟩
theorem gX7_33 : ∀ z, xCv (Cf z) RX7 33 MX7_elementAt 1 := fun z => ⟨cmX7_elementAt z, (bw 698 (by decide +kernel) rfl), (bw 550 (by decide +kernel) rfl), (bw 551 (by decide +kernel) rfl)⟩
theorem cmX7_lowestBits : ∀ z, xCm (Cf z) MX7_lowestBits 1 := fun z => ⟨(bw 91 (by decide +kernel) rfl), (bw 526 (by decide +kernel) rfl), by decide +kernel, by decide, by decide +kernel⟩
theorem gX7_37 : ∀ z, xCv (Cf z) RX7 37 MX7_lowestBits 1 := fun z => ⟨cmX7_lowestBits z, (bw 523 (by decide +kernel) rfl), (bw 525 (by decide +kernel) rfl), (bw 2 (by decide +kernel) rfl)⟩
theorem gX7_41 : ∀ z, xCv (Cf z) RX7 41 MX7_hasElements 2 := fun z => ⟨cmX7_hasElements z, (bw 543 (by decide +kernel) rfl), (bw 536 (by decide +kernel) rfl), (bw 537 (by decide +kernel) rfl)⟩
theorem gX7_51 : ∀ z, xCv (Cf z) RX7 51 MX7_intAt 1 := fun z => ⟨cmX7_intAt z, (bw 967 (by decide +kernel) rfl), (bw 695 (by decide +kernel) rfl), (bw 696 (by decide +kernel) rfl)⟩
theorem cmX7_isPress : ∀ z, xCm (Cf z) MX7_isPress 1 := fun z => ⟨(bw 91 (by decide +kernel) rfl), (bw 966 (by decide +kernel) rfl), by decide +kernel, by decide, by decide +kernel⟩
theorem gX7_55 : ∀ z, xCv (Cf z) RX7 55 MX7_isPress 1 := fun z => ⟨cmX7_isPress z, (bw 963 (by decide +kernel) rfl), (bw 964 (by decide +kernel) rfl), (bw 965 (by decide +kernel) rfl)⟩
theorem pX7_9 : ∀ z, xFp (Cf z) RX7 9 7 0 (.int) := fun z => ⟨(RX7, TX7, 3), rfl, by decide, (bw 440 (by decide +kernel) rfl), rfl, by decide +kernel⟩
theorem pX7_15 : ∀ z, xFp (Cf z) RX7 15 7 1 (.int) := fun z => ⟨(RX7, TX7, 3), rfl, by decide, (bw 441 (by decide +kernel) rfl), rfl, by decide +kernel⟩
theorem pX7_18 : ∀ z, xFf (Cf z) RX7 18 7 2 (.array .long) := fun z => ⟨(RX7, TX7, 3), rfl, by decide, (bw 442 (by decide +kernel) rfl), rfl, rfl, by decide +kernel⟩
theorem fX8_9 : ∀ z, xFd (Cf z) RX8 9 8 0 := fun z => ⟨(RX8, TX8, 8), rfl, by decide, (bw 217 (by decide +kernel) rfl)⟩
theorem fX8_15 : ∀ z, xFd (Cf z) RX8 15 8 1 := fun z => ⟨(RX8, TX8, 8), rfl, by decide, (bw 220 (by decide +kernel) rfl)⟩
theorem fX8_18 : ∀ z, xFd (Cf z) RX8 18 8 2 := fun z => ⟨(RX8, TX8, 8), rfl, by decide, (bw 222 (by decide +kernel) rfl)⟩
theorem fX8_21 : ∀ z, xFd (Cf z) RX8 21 8 3 := fun z => ⟨(RX8, TX8, 8), rfl, by decide, (bw 225 (by decide +kernel) rfl)⟩
theorem fX8_24 : ∀ z, xFd (Cf z) RX8 24 8 4 := fun z => ⟨(RX8, TX8, 8), rfl, by decide, (bw 227 (by decide +kernel) rfl)⟩
theorem fX8_27 : ∀ z, xFd (Cf z) RX8 27 8 5 := fun z => ⟨(RX8, TX8, 8), rfl, by decide, (bw 229 (by decide +kernel) rfl)⟩
theorem fX8_30 : ∀ z, xFd (Cf z) RX8 30 8 6 := fun z => ⟨(RX8, TX8, 8), rfl, by decide, (bw 231 (by decide +kernel) rfl)⟩
theorem fX8_33 : ∀ z, xFd (Cf z) RX8 33 8 7 := fun z => ⟨(RX8, TX8, 8), rfl, by decide, (bw 234 (by decide +kernel) rfl)⟩
theorem gX8_3 : ∀ z, Cond.methodLink RX8 3 objectInit ∈ (Cf z).1 := fun z => (bw 216 (by decide +kernel) rfl)
theorem cmJ9_max_7cf53 : ∀ z, xCm (Cf z) MJ9_max_7cf53 2 := fun z => ⟨(bw 93 (by decide +kernel) rfl), (bw 905 (by decide +kernel) rfl), by decide +kernel, by decide, by decide +kernel⟩
theorem gX8_40 : ∀ z, xCs (Cf z) RX8 40 MJ9_max_7cf53 2 ∨ ∃ h, xCsN (Cf z) RX8 40 MJ9_max_7cf53 2 h := fun z => Or.inl ⟨cmJ9_max_7cf53 z, (bw 903 (by decide +kernel) rfl), (bw 904 (by decide +kernel) rfl)⟩
theorem cmX8_isFan : ∀ z, xCm (Cf z) MX8_isFan 0 := fun z => ⟨(bw 86 (by decide +kernel) rfl), (bw 589 (by decide +kernel) rfl), by decide +kernel, by decide, by decide +kernel⟩
theorem gX8_36 : ∀ z, xCv (Cf z) RX8 36 MX8_isFan 0 := fun z => ⟨cmX8_isFan z, (bw 586 (by decide +kernel) rfl), (bw 587 (by decide +kernel) rfl), (bw 588 (by decide +kernel) rfl)⟩
theorem pX8_9 : ∀ z, xFp (Cf z) RX8 9 8 0 (.int) := fun z => ⟨(RX8, TX8, 8), rfl, by decide, (bw 217 (by decide +kernel) rfl), rfl, by decide +kernel⟩
theorem pX8_15 : ∀ z, xFp (Cf z) RX8 15 8 1 (.int) := fun z => ⟨(RX8, TX8, 8), rfl, by decide, (bw 220 (by decide +kernel) rfl), rfl, by decide +kernel⟩
theorem pX8_18 : ∀ z, xFp (Cf z) RX8 18 8 2 (.int) := fun z => ⟨(RX8, TX8, 8), rfl, by decide, (bw 222 (by decide +kernel) rfl), rfl, by decide +kernel⟩
theorem pX8_21 : ∀ z, xFp (Cf z) RX8 21 8 3 (.int) := fun z => ⟨(RX8, TX8, 8), rfl, by decide, (bw 225 (by decide +kernel) rfl), rfl, by decide +kernel⟩
theorem pX8_24 : ∀ z, xFp (Cf z) RX8 24 8 4 (.int) := fun z => ⟨(RX8, TX8, 8), rfl, by decide, (bw 227 (by decide +kernel) rfl), rfl, by decide +kernel⟩
theorem pX8_27 : ∀ z, xFp (Cf z) RX8 27 8 5 (.int) := fun z => ⟨(RX8, TX8, 8), rfl, by decide, (bw 229 (by decide +kernel) rfl), rfl, by decide +kernel⟩
theorem pX8_30 : ∀ z, xFp (Cf z) RX8 30 8 6 (.int) := fun z => ⟨(RX8, TX8, 8), rfl, by decide, (bw 231 (by decide +kernel) rfl), rfl, by decide +kernel⟩
theorem pX8_33 : ∀ z, xFp (Cf z) RX8 33 8 7 (.int) := fun z => ⟨(RX8, TX8, 8), rfl, by decide, (bw 234 (by decide +kernel) rfl), rfl, by decide +kernel⟩
theorem nX9_30a : ∀ z, Cond.classLink RX9 30 "HumUnheard$Person" ∈ (Cf z).1 ∧ Cond.arrayOver (.object "HumUnheard$Person") ∈ (Cf z).2.1 := fun z => ⟨(bw 121 (by decide +kernel) rfl), nw 122 (by decide +kernel) rfl⟩
theorem nX9_36a : ∀ z, Cond.classLink RX9 36 "HumUnheard$Source" ∈ (Cf z).1 ∧ Cond.arrayOver (.object "HumUnheard$Source") ∈ (Cf z).2.1 := fun z => ⟨(bw 123 (by decide +kernel) rfl), nw 124 (by decide +kernel) rfl⟩
theorem nX9_42a : ∀ z, Cond.classLink RX9 42 "HumUnheard$Plan" ∈ (Cf z).1 ∧ Cond.arrayOver (.object "HumUnheard$Plan") ∈ (Cf z).2.1 := fun z => ⟨(bw 125 (by decide +kernel) rfl), nw 126 (by decide +kernel) rfl⟩
theorem fX9_9 : ∀ z, xFd (Cf z) RX9 9 9 0 := fun z => ⟨(RX9, TX9, 14), rfl, by decide, (bw 283 (by decide +kernel) rfl)⟩
theorem fX9_15 : ∀ z, xFd (Cf z) RX9 15 9 1 := fun z => ⟨(RX9, TX9, 14), rfl, by decide, (bw 285 (by decide +kernel) rfl)⟩
theorem fX9_18 : ∀ z, xFd (Cf z) RX9 18 9 2 := fun z => ⟨(RX9, TX9, 14), rfl, by decide, (bw 288 (by decide +kernel) rfl)⟩
theorem fX9_21 : ∀ z, xFd (Cf z) RX9 21 9 3 := fun z => ⟨(RX9, TX9, 14), rfl, by decide, (bw 291 (by decide +kernel) rfl)⟩
theorem fX9_24 : ∀ z, xFd (Cf z) RX9 24 9 4 := fun z => ⟨(RX9, TX9, 14), rfl, by decide, (bw 293 (by decide +kernel) rfl)⟩
theorem fX9_27 : ∀ z, xFd (Cf z) RX9 27 9 5 := fun z => ⟨(RX9, TX9, 14), rfl, by decide, (bw 295 (by decide +kernel) rfl)⟩
theorem fX9_32 : ∀ z, xFd (Cf z) RX9 32 9 6 := fun z => ⟨(RX9, TX9, 14), rfl, by decide, (bw 297 (by decide +kernel) rfl)⟩
theorem fX9_38 : ∀ z, xFd (Cf z) RX9 38 9 7 := fun z => ⟨(RX9, TX9, 14), rfl, by decide, (bw 300 (by decide +kernel) rfl)⟩
theorem fX9_44 : ∀ z, xFd (Cf z) RX9 44 9 8 := fun z => ⟨(RX9, TX9, 14), rfl, by decide, (bw 303 (by decide +kernel) rfl)⟩
theorem fX9_51 : ∀ z, xFd (Cf z) RX9 51 9 9 := fun z => ⟨(RX9, TX9, 14), rfl, by decide, (bw 304 (by decide +kernel) rfl)⟩
theorem fX9_58 : ∀ z, xFd (Cf z) RX9 58 9 10 := fun z => ⟨(RX9, TX9, 14), rfl, by decide, (bw 307 (by decide +kernel) rfl)⟩
theorem fX9_62 : ∀ z, xFd (Cf z) RX9 62 9 11 := fun z => ⟨(RX9, TX9, 14), rfl, by decide, (bw 309 (by decide +kernel) rfl)⟩
theorem fX9_66 : ∀ z, xFd (Cf z) RX9 66 9 12 := fun z => ⟨(RX9, TX9, 14), rfl, by decide, (bw 311 (by decide +kernel) rfl)⟩
theorem fX9_69 : ∀ z, xFd (Cf z) RX9 69 9 13 := fun z => ⟨(RX9, TX9, 14), rfl, by decide, (bw 313 (by decide +kernel) rfl)⟩
theorem fX9_111 : ∀ z, xFd (Cf z) RX9 111 8 2 := fun z => ⟨(RX8, TX8, 8), rfl, by decide, (bw 224 (by decide +kernel) rfl)⟩
theorem fX9_118 : ∀ z, xFd (Cf z) RX9 118 8 7 := fun z => ⟨(RX8, TX8, 8), rfl, by decide, (bw 235 (by decide +kernel) rfl)⟩
theorem fX9_127 : ∀ z, xFd (Cf z) RX9 127 3 0 := fun z => ⟨(RX3, TX3, 5), rfl, by decide, (bw 194 (by decide +kernel) rfl)⟩
theorem fX9_144 : ∀ z, xFd (Cf z) RX9 144 8 1 := fun z => ⟨(RX8, TX8, 8), rfl, by decide, (bw 221 (by decide +kernel) rfl)⟩
theorem fX9_174 : ∀ z, xFd (Cf z) RX9 174 8 0 := fun z => ⟨(RX8, TX8, 8), rfl, by decide, (bw 219 (by decide +kernel) rfl)⟩
theorem fX9_183 : ∀ z, xFd (Cf z) RX9 183 8 3 := fun z => ⟨(RX8, TX8, 8), rfl, by decide, (bw 226 (by decide +kernel) rfl)⟩
theorem fX9_199 : ∀ z, xFd (Cf z) RX9 199 3 4 := fun z => ⟨(RX3, TX3, 5), rfl, by decide, (bw 200 (by decide +kernel) rfl)⟩
theorem fX9_228 : ∀ z, xFd (Cf z) RX9 228 2 0 := fun z => ⟨(RX2, TX2, 4), rfl, by decide, (bw 170 (by decide +kernel) rfl)⟩
theorem fX9_231 : ∀ z, xFd (Cf z) RX9 231 2 2 := fun z => ⟨(RX2, TX2, 4), rfl, by decide, (bw 175 (by decide +kernel) rfl)⟩
theorem fX9_234 : ∀ z, xFd (Cf z) RX9 234 2 3 := fun z => ⟨(RX2, TX2, 4), rfl, by decide, (bw 177 (by decide +kernel) rfl)⟩
theorem fX9_237 : ∀ z, xFd (Cf z) RX9 237 2 1 := fun z => ⟨(RX2, TX2, 4), rfl, by decide, (bw 173 (by decide +kernel) rfl)⟩
theorem sX9_75 : ∀ z, Cond.fieldLinkNest RX9 75 "HumUnheard" "FIRST_LAWS" "[I" "HumUnheard" ∈ (Cf z).2.1 := fun z => nw 278 (by decide +kernel) rfl
theorem gX9_3 : ∀ z, Cond.methodLink RX9 3 objectInit ∈ (Cf z).1 := fun z => (bw 120 (by decide +kernel) rfl)
theorem cmX1_init : ∀ z, xCm (Cf z) MX1_init 0 := fun z => ⟨(bw 83 (by decide +kernel) rfl), (bw 131 (by decide +kernel) rfl), by decide +kernel, by decide, by decide +kernel⟩
theorem gX9_50 : ∀ z, xCi (Cf z) RX9 50 MX1_init 0 ∨ ∃ h, xCiN (Cf z) RX9 50 MX1_init 0 h := fun z => Or.inr ⟨"HumUnheard", cmX1_init z, nw 129 (by decide +kernel) rfl, (bw 130 (by decide +kernel) rfl), rfl, rfl⟩
theorem cmX2_init : ∀ z, xCm (Cf z) MX2_init 0 := fun z => ⟨(bw 84 (by decide +kernel) rfl), (bw 167 (by decide +kernel) rfl), by decide +kernel, by decide, by decide +kernel⟩
theorem gX9_57 : ∀ z, xCi (Cf z) RX9 57 MX2_init 0 ∨ ∃ h, xCiN (Cf z) RX9 57 MX2_init 0 h := fun z => Or.inr ⟨"HumUnheard", cmX2_init z, nw 165 (by decide +kernel) rfl, (bw 166 (by decide +kernel) rfl), rfl, rfl⟩
theorem cmX3_init : ∀ z, xCm (Cf z) MX3_init 0 := fun z => ⟨(bw 85 (by decide +kernel) rfl), (bw 190 (by decide +kernel) rfl), by decide +kernel, by decide, by decide +kernel⟩
theorem gX9_72 : ∀ z, xCi (Cf z) RX9 72 MX3_init 0 ∨ ∃ h, xCiN (Cf z) RX9 72 MX3_init 0 h := fun z => Or.inr ⟨"HumUnheard", cmX3_init z, nw 188 (by decide +kernel) rfl, (bw 189 (by decide +kernel) rfl), rfl, rfl⟩
theorem cmX8_init : ∀ z, xCm (Cf z) MX8_init 0 := fun z => ⟨(bw 86 (by decide +kernel) rfl), (bw 215 (by decide +kernel) rfl), by decide +kernel, by decide, by decide +kernel⟩
theorem gX9_73 : ∀ z, xCi (Cf z) RX9 73 MX8_init 0 ∨ ∃ h, xCiN (Cf z) RX9 73 MX8_init 0 h := fun z => Or.inr ⟨"HumUnheard", cmX8_init z, nw 213 (by decide +kernel) rfl, (bw 214 (by decide +kernel) rfl), rfl, rfl⟩
theorem gX9_74 : ∀ z, xCi (Cf z) RX9 74 MX4_init 0 ∨ ∃ h, xCiN (Cf z) RX9 74 MX4_init 0 h := fun z => Or.inr ⟨"HumUnheard", cmX4_init z, nw 254 (by decide +kernel) rfl, (bw 255 (by decide +kernel) rfl), rfl, rfl⟩
theorem gX9_78 : ∀ z, xCp (Cf z) RX9 78 := fun z => ⟨(bw 280 (by decide +kernel) rfl), (bw 282 (by decide +kernel) rfl), (bw 281 (by decide +kernel) rfl), (bw 88 (by decide +kernel) rfl)⟩
theorem gX9_100 : ∀ z, xCs (Cf z) RX9 100 MX10_bit 1 ∨ ∃ h, xCsN (Cf z) RX9 100 MX10_bit 1 h := fun z => Or.inr ⟨"HumUnheard", cmX10_bit z, nw 646 (by decide +kernel) rfl, (bw 647 (by decide +kernel) rfl)⟩
theorem cmX10_beat : ∀ z, xCm (Cf z) MX10_beat 2 := fun z => ⟨(bw 80 (by decide +kernel) rfl), (bw 642 (by decide +kernel) rfl), by decide +kernel, by decide, by decide +kernel⟩
theorem gX9_114 : ∀ z, xCs (Cf z) RX9 114 MX10_beat 2 ∨ ∃ h, xCsN (Cf z) RX9 114 MX10_beat 2 h := fun z => Or.inr ⟨"HumUnheard", cmX10_beat z, nw 640 (by decide +kernel) rfl, (bw 641 (by decide +kernel) rfl)⟩
theorem gX9_156 : ∀ z, xCs (Cf z) RX9 156 MX10_hasBit 2 ∨ ∃ h, xCsN (Cf z) RX9 156 MX10_hasBit 2 h := fun z => Or.inr ⟨"HumUnheard", cmX10_hasBit z, nw 876 (by decide +kernel) rfl, (bw 877 (by decide +kernel) rfl)⟩
theorem gX9_186 : ∀ z, xCs (Cf z) RX9 186 MX10_farApart 2 ∨ ∃ h, xCsN (Cf z) RX9 186 MX10_farApart 2 h := fun z => Or.inr ⟨"HumUnheard", cmX10_farApart z, nw 896 (by decide +kernel) rfl, (bw 897 (by decide +kernel) rfl)⟩
theorem gX9_212 : ∀ z, xCs (Cf z) RX9 212 MJ6_bitCount_0f7a4 1 ∨ ∃ h, xCsN (Cf z) RX9 212 MJ6_bitCount_0f7a4 1 h := fun z => Or.inl ⟨cmJ6_bitCount_0f7a4 z, (bw 1119 (by decide +kernel) rfl), (bw 1120 (by decide +kernel) rfl)⟩
theorem gX9_217 : ∀ z, xCs (Cf z) RX9 217 MJ9_abs_0f7a4 1 ∨ ∃ h, xCsN (Cf z) RX9 217 MJ9_abs_0f7a4 1 h := fun z => Or.inl ⟨cmJ9_abs_0f7a4 z, (bw 1011 (by decide +kernel) rfl), (bw 644 (by decide +kernel) rfl)⟩
theorem gX9_222 : ∀ z, xCs (Cf z) RX9 222 MJ9_max_7cf53 2 ∨ ∃ h, xCsN (Cf z) RX9 222 MJ9_max_7cf53 2 h := fun z => Or.inl ⟨cmJ9_max_7cf53 z, (bw 1046 (by decide +kernel) rfl), (bw 904 (by decide +kernel) rfl)⟩
theorem cmJ9_min_7cf53 : ∀ z, xCm (Cf z) MJ9_min_7cf53 2 := fun z => ⟨(bw 93 (by decide +kernel) rfl), (bw 1049 (by decide +kernel) rfl), by decide +kernel, by decide, by decide +kernel⟩
theorem gX9_225 : ∀ z, xCs (Cf z) RX9 225 MJ9_min_7cf53 2 ∨ ∃ h, xCsN (Cf z) RX9 225 MJ9_min_7cf53 2 h := fun z => Or.inl ⟨cmJ9_min_7cf53 z, (bw 1047 (by decide +kernel) rfl), (bw 1048 (by decide +kernel) rfl)⟩
theorem cmX3_becomeLike : ∀ z, xCm (Cf z) MX3_becomeLike 1 := fun z => ⟨(bw 85 (by decide +kernel) rfl), (bw 1214 (by decide +kernel) rfl), by decide +kernel, by decide, by decide +kernel⟩
theorem gX9_84 : ∀ z, xCv (Cf z) RX9 84 MX3_becomeLike 1 := fun z => ⟨cmX3_becomeLike z, (bw 1211 (by decide +kernel) rfl), (bw 1212 (by decide +kernel) rfl), (bw 1213 (by decide +kernel) rfl)⟩
theorem cmX8_becomeLike : ∀ z, xCm (Cf z) MX8_becomeLike 1 := fun z => ⟨(bw 86 (by decide +kernel) rfl), (bw 1219 (by decide +kernel) rfl), by decide +kernel, by decide, by decide +kernel⟩
theorem gX9_88 : ∀ z, xCv (Cf z) RX9 88 MX8_becomeLike 1 := fun z => ⟨cmX8_becomeLike z, (bw 1216 (by decide +kernel) rfl), (bw 1217 (by decide +kernel) rfl), (bw 1218 (by decide +kernel) rfl)⟩
theorem cmX4_becomeLike : ∀ z, xCm (Cf z) MX4_becomeLike 1 := fun z => ⟨(bw 87 (by decide +kernel) rfl), (bw 832 (by decide +kernel) rfl), by decide +kernel, by decide, by decide +kernel⟩
theorem gX9_91 : ∀ z, xCv (Cf z) RX9 91 MX4_becomeLike 1 := fun z => ⟨cmX4_becomeLike z, (bw 829 (by decide +kernel) rfl), (bw 830 (by decide +kernel) rfl), (bw 831 (by decide +kernel) rfl)⟩
theorem cmX1_becomeLike : ∀ z, xCm (Cf z) MX1_becomeLike 1 := fun z => ⟨(bw 83 (by decide +kernel) rfl), (bw 1223 (by decide +kernel) rfl), by decide +kernel, by decide, by decide +kernel⟩
theorem gX9_94 : ∀ z, xCv (Cf z) RX9 94 MX1_becomeLike 1 := fun z => ⟨cmX1_becomeLike z, (bw 1220 (by decide +kernel) rfl), (bw 1221 (by decide +kernel) rfl), (bw 1222 (by decide +kernel) rfl)⟩
theorem cmX2_becomeLike : ∀ z, xCm (Cf z) MX2_becomeLike 1 := fun z => ⟨(bw 84 (by decide +kernel) rfl), (bw 1228 (by decide +kernel) rfl), by decide +kernel, by decide, by decide +kernel⟩
theorem gX9_97 : ∀ z, xCv (Cf z) RX9 97 MX2_becomeLike 1 := fun z => ⟨cmX2_becomeLike z, (bw 1225 (by decide +kernel) rfl), (bw 1226 (by decide +kernel) rfl), (bw 1227 (by decide +kernel) rfl)⟩
theorem gX9_104 : ∀ z, xCv (Cf z) RX9 104 MX3_begin 5 := fun z => ⟨cmX3_begin z, (bw 616 (by decide +kernel) rfl), (bw 617 (by decide +kernel) rfl), (bw 618 (by decide +kernel) rfl)⟩
theorem cmX8_begin : ∀ z, xCm (Cf z) MX8_begin 4 := fun z => ⟨(bw 86 (by decide +kernel) rfl), (bw 639 (by decide +kernel) rfl), by decide +kernel, by decide, by decide +kernel⟩
theorem gX9_108 : ∀ z, xCv (Cf z) RX9 108 MX8_begin 4 := fun z => ⟨cmX8_begin z, (bw 636 (by decide +kernel) rfl), (bw 637 (by decide +kernel) rfl), (bw 638 (by decide +kernel) rfl)⟩
theorem gX9_121 : ∀ z, xCv (Cf z) RX9 121 MX7_isPress 1 := fun z => ⟨cmX7_isPress z, (bw 972 (by decide +kernel) rfl), (bw 964 (by decide +kernel) rfl), (bw 965 (by decide +kernel) rfl)⟩
theorem gX9_130 : ∀ z, xCv (Cf z) RX9 130 MX7_intAt 1 := fun z => ⟨cmX7_intAt z, (bw 973 (by decide +kernel) rfl), (bw 695 (by decide +kernel) rfl), (bw 696 (by decide +kernel) rfl)⟩
theorem gX9_133 : ∀ z, xCv (Cf z) RX9 133 MX1_addPress 4 := fun z => ⟨cmX1_addPress z, (bw 974 (by decide +kernel) rfl), (bw 948 (by decide +kernel) rfl), (bw 949 (by decide +kernel) rfl)⟩
theorem gX9_137 : ∀ z, xCv (Cf z) RX9 137 MX8_hoursAsNumber 0 := fun z => ⟨cmX8_hoursAsNumber z, (bw 594 (by decide +kernel) rfl), (bw 595 (by decide +kernel) rfl), (bw 596 (by decide +kernel) rfl)⟩
theorem cmX9_countStorms : ∀ z, xCm (Cf z) MX9_countStorms 0 := fun z => ⟨(bw 82 (by decide +kernel) rfl), (bw 601 (by decide +kernel) rfl), by decide +kernel, by decide, by decide +kernel⟩
theorem gX9_141 : ∀ z, xCv (Cf z) RX9 141 MX9_countStorms 0 := fun z => ⟨cmX9_countStorms z, (bw 598 (by decide +kernel) rfl), (bw 600 (by decide +kernel) rfl), (bw 3 (by decide +kernel) rfl)⟩
theorem gX9_147 : ∀ z, xCv (Cf z) RX9 147 MX9_allSources 0 := fun z => ⟨cmX9_allSources z, (bw 850 (by decide +kernel) rfl), (bw 851 (by decide +kernel) rfl), (bw 852 (by decide +kernel) rfl)⟩
theorem cmX9_offAt : ∀ z, xCm (Cf z) MX9_offAt 1 := fun z => ⟨(bw 82 (by decide +kernel) rfl), (bw 857 (by decide +kernel) rfl), by decide +kernel, by decide, by decide +kernel⟩
theorem gX9_150 : ∀ z, xCv (Cf z) RX9 150 MX9_offAt 1 := fun z => ⟨cmX9_offAt z, (bw 854 (by decide +kernel) rfl), (bw 856 (by decide +kernel) rfl), (bw 15 (by decide +kernel) rfl)⟩
theorem cmX9_fansRunningAt : ∀ z, xCm (Cf z) MX9_fansRunningAt 1 := fun z => ⟨(bw 82 (by decide +kernel) rfl), (bw 870 (by decide +kernel) rfl), by decide +kernel, by decide, by decide +kernel⟩
theorem gX9_153 : ∀ z, xCv (Cf z) RX9 153 MX9_fansRunningAt 1 := fun z => ⟨cmX9_fansRunningAt z, (bw 867 (by decide +kernel) rfl), (bw 869 (by decide +kernel) rfl), (bw 17 (by decide +kernel) rfl)⟩
theorem cmX9_isDue : ∀ z, xCm (Cf z) MX9_isDue 3 := fun z => ⟨(bw 82 (by decide +kernel) rfl), (bw 882 (by decide +kernel) rfl), by decide +kernel, by decide, by decide +kernel⟩
theorem gX9_159 : ∀ z, xCv (Cf z) RX9 159 MX9_isDue 3 := fun z => ⟨cmX9_isDue z, (bw 879 (by decide +kernel) rfl), (bw 881 (by decide +kernel) rfl), (bw 18 (by decide +kernel) rfl)⟩
theorem cmX4_change : ∀ z, xCm (Cf z) MX4_change 2 := fun z => ⟨(bw 87 (by decide +kernel) rfl), (bw 861 (by decide +kernel) rfl), by decide +kernel, by decide, by decide +kernel⟩
theorem gX9_163 : ∀ z, xCv (Cf z) RX9 163 MX4_change 2 := fun z => ⟨cmX4_change z, (bw 858 (by decide +kernel) rfl), (bw 859 (by decide +kernel) rfl), (bw 860 (by decide +kernel) rfl)⟩
theorem gX9_167 : ∀ z, xCv (Cf z) RX9 167 MX8_isFan 0 := fun z => ⟨cmX8_isFan z, (bw 871 (by decide +kernel) rfl), (bw 587 (by decide +kernel) rfl), (bw 588 (by decide +kernel) rfl)⟩
theorem cmX8_runsAt : ∀ z, xCm (Cf z) MX8_runsAt 1 := fun z => ⟨(bw 86 (by decide +kernel) rfl), (bw 875 (by decide +kernel) rfl), by decide +kernel, by decide, by decide +kernel⟩
theorem gX9_171 : ∀ z, xCv (Cf z) RX9 171 MX8_runsAt 1 := fun z => ⟨cmX8_runsAt z, (bw 872 (by decide +kernel) rfl), (bw 873 (by decide +kernel) rfl), (bw 874 (by decide +kernel) rfl)⟩
theorem gX9_177 : ∀ z, xCv (Cf z) RX9 177 MX9_soundingAt 1 := fun z => ⟨cmX9_soundingAt z, (bw 933 (by decide +kernel) rfl), (bw 847 (by decide +kernel) rfl), (bw 848 (by decide +kernel) rfl)⟩
theorem gX9_180 : ∀ z, xCv (Cf z) RX9 180 MX8_isAirborne 0 := fun z => ⟨cmX8_isAirborne z, (bw 892 (by decide +kernel) rfl), (bw 893 (by decide +kernel) rfl), (bw 894 (by decide +kernel) rfl)⟩
theorem cmX8_levelWith : ∀ z, xCm (Cf z) MX8_levelWith 3 := fun z => ⟨(bw 86 (by decide +kernel) rfl), (bw 902 (by decide +kernel) rfl), by decide +kernel, by decide, by decide +kernel⟩
theorem gX9_189 : ∀ z, xCv (Cf z) RX9 189 MX8_levelWith 3 := fun z => ⟨cmX8_levelWith z, (bw 899 (by decide +kernel) rfl), (bw 900 (by decide +kernel) rfl), (bw 901 (by decide +kernel) rfl)⟩
theorem gX9_193 : ∀ z, xCv (Cf z) RX9 193 MX9_levelAt 2 := fun z => ⟨cmX9_levelAt z, (bw 927 (by decide +kernel) rfl), (bw 889 (by decide +kernel) rfl), (bw 890 (by decide +kernel) rfl)⟩
theorem cmX9_isForEars : ∀ z, xCm (Cf z) MX9_isForEars 3 := fun z => ⟨(bw 82 (by decide +kernel) rfl), (bw 931 (by decide +kernel) rfl), by decide +kernel, by decide, by decide +kernel⟩
theorem gX9_196 : ∀ z, xCv (Cf z) RX9 196 MX9_isForEars 3 := fun z => ⟨cmX9_isForEars z, (bw 928 (by decide +kernel) rfl), (bw 930 (by decide +kernel) rfl), (bw 19 (by decide +kernel) rfl)⟩
theorem gX9_203 : ∀ z, xCv (Cf z) RX9 203 MX3_needFor 1 := fun z => ⟨cmX3_needFor z, (bw 932 (by decide +kernel) rfl), (bw 911 (by decide +kernel) rfl), (bw 912 (by decide +kernel) rfl)⟩
theorem gX9_206 : ∀ z, xCv (Cf z) RX9 206 MX9_audibleTo 2 := fun z => ⟨cmX9_audibleTo z, (bw 923 (by decide +kernel) rfl), (bw 924 (by decide +kernel) rfl), (bw 925 (by decide +kernel) rfl)⟩
theorem gX9_209 : ∀ z, xCv (Cf z) RX9 209 MX9_heardBy 2 := fun z => ⟨cmX9_heardBy z, (bw 942 (by decide +kernel) rfl), (bw 920 (by decide +kernel) rfl), (bw 921 (by decide +kernel) rfl)⟩
theorem nX9_30 : ∀ z, Cond.classLink RX9 30 RX3 ∈ (Cf z).1 ∧ Cond.instantiable RX3 5 ∈ (Cf z).1 ∧ Cond.initialized RX3 ∈ (Cf z).1 := fun z => ⟨(bw 121 (by decide +kernel) rfl), (bw 187 (by decide +kernel) rfl), (bw 85 (by decide +kernel) rfl)⟩
theorem nX9_36 : ∀ z, Cond.classLink RX9 36 RX8 ∈ (Cf z).1 ∧ Cond.instantiable RX8 8 ∈ (Cf z).1 ∧ Cond.initialized RX8 ∈ (Cf z).1 := fun z => ⟨(bw 123 (by decide +kernel) rfl), (bw 212 (by decide +kernel) rfl), (bw 86 (by decide +kernel) rfl)⟩
theorem nX9_42 : ∀ z, Cond.classLink RX9 42 RX4 ∈ (Cf z).1 ∧ Cond.instantiable RX4 6 ∈ (Cf z).1 ∧ Cond.initialized RX4 ∈ (Cf z).1 := fun z => ⟨(bw 125 (by decide +kernel) rfl), (bw 253 (by decide +kernel) rfl), (bw 87 (by decide +kernel) rfl)⟩
theorem nX9_48 : ∀ z, Cond.classLink RX9 48 RX1 ∈ (Cf z).1 ∧ Cond.instantiable RX1 7 ∈ (Cf z).1 ∧ Cond.initialized RX1 ∈ (Cf z).1 := fun z => ⟨(bw 127 (by decide +kernel) rfl), (bw 128 (by decide +kernel) rfl), (bw 83 (by decide +kernel) rfl)⟩
theorem nX9_55 : ∀ z, Cond.classLink RX9 55 RX2 ∈ (Cf z).1 ∧ Cond.instantiable RX2 4 ∈ (Cf z).1 ∧ Cond.initialized RX2 ∈ (Cf z).1 := fun z => ⟨(bw 163 (by decide +kernel) rfl), (bw 164 (by decide +kernel) rfl), (bw 84 (by decide +kernel) rfl)⟩
theorem pX9_9 : ∀ z, xFp (Cf z) RX9 9 9 0 (.int) := fun z => ⟨(RX9, TX9, 14), rfl, by decide, (bw 283 (by decide +kernel) rfl), rfl, by decide +kernel⟩
theorem pX9_15 : ∀ z, xFp (Cf z) RX9 15 9 1 (.int) := fun z => ⟨(RX9, TX9, 14), rfl, by decide, (bw 285 (by decide +kernel) rfl), rfl, by decide +kernel⟩
theorem pX9_18 : ∀ z, xFp (Cf z) RX9 18 9 2 (.int) := fun z => ⟨(RX9, TX9, 14), rfl, by decide, (bw 288 (by decide +kernel) rfl), rfl, by decide +kernel⟩
theorem pX9_21 : ∀ z, xFp (Cf z) RX9 21 9 3 (.int) := fun z => ⟨(RX9, TX9, 14), rfl, by decide, (bw 291 (by decide +kernel) rfl), rfl, by decide +kernel⟩
theorem pX9_24 : ∀ z, xFp (Cf z) RX9 24 9 4 (.int) := fun z => ⟨(RX9, TX9, 14), rfl, by decide, (bw 293 (by decide +kernel) rfl), rfl, by decide +kernel⟩
theorem pX9_27 : ∀ z, xFp (Cf z) RX9 27 9 5 (.int) := fun z => ⟨(RX9, TX9, 14), rfl, by decide, (bw 295 (by decide +kernel) rfl), rfl, by decide +kernel⟩
theorem pX9_32 : ∀ z, xFf (Cf z) RX9 32 9 6 (.array (.object "HumUnheard$Person")) := fun z => ⟨(RX9, TX9, 14), rfl, by decide, (bw 297 (by decide +kernel) rfl), rfl, rfl, by decide +kernel⟩
theorem pX9_38 : ∀ z, xFf (Cf z) RX9 38 9 7 (.array (.object "HumUnheard$Source")) := fun z => ⟨(RX9, TX9, 14), rfl, by decide, (bw 300 (by decide +kernel) rfl), rfl, rfl, by decide +kernel⟩
theorem pX9_44 : ∀ z, xFf (Cf z) RX9 44 9 8 (.array (.object "HumUnheard$Plan")) := fun z => ⟨(RX9, TX9, 14), rfl, by decide, (bw 303 (by decide +kernel) rfl), rfl, rfl, by decide +kernel⟩
theorem pX9_51 : ∀ z, xFf (Cf z) RX9 51 9 9 (.object "HumUnheard$Diary") := fun z => ⟨(RX9, TX9, 14), rfl, by decide, (bw 304 (by decide +kernel) rfl), rfl, rfl, by decide +kernel⟩
theorem pX9_58 : ∀ z, xFf (Cf z) RX9 58 9 10 (.object "HumUnheard$Letters") := fun z => ⟨(RX9, TX9, 14), rfl, by decide, (bw 307 (by decide +kernel) rfl), rfl, rfl, by decide +kernel⟩
theorem pX9_62 : ∀ z, xFf (Cf z) RX9 62 9 11 (.array .int) := fun z => ⟨(RX9, TX9, 14), rfl, by decide, (bw 309 (by decide +kernel) rfl), rfl, rfl, by decide +kernel⟩
theorem pX9_66 : ∀ z, xFf (Cf z) RX9 66 9 12 (.array .int) := fun z => ⟨(RX9, TX9, 14), rfl, by decide, (bw 311 (by decide +kernel) rfl), rfl, rfl, by decide +kernel⟩
theorem pX9_69 : ∀ z, xFf (Cf z) RX9 69 9 13 (.array .int) := fun z => ⟨(RX9, TX9, 14), rfl, by decide, (bw 313 (by decide +kernel) rfl), rfl, rfl, by decide +kernel⟩
theorem pX9_118 : ∀ z, xFp (Cf z) RX9 118 8 7 (.int) := fun z => ⟨(RX8, TX8, 8), rfl, by decide, (bw 235 (by decide +kernel) rfl), rfl, by decide +kernel⟩
theorem cmX10_init : ∀ z, xCm (Cf z) MX10_init 0 := fun z => ⟨(bw 80 (by decide +kernel) rfl), (bw 103 (by decide +kernel) rfl), by decide +kernel, by decide, by decide +kernel⟩
theorem gL_9 : ∀ z, xCi (Cf z) RL 9 MX10_init 0 ∨ ∃ h, xCiN (Cf z) RL 9 MX10_init 0 h := fun z => Or.inl ⟨cmX10_init z, (bw 101 (by decide +kernel) rfl), (bw 102 (by decide +kernel) rfl), rfl, rfl⟩
theorem cmX11_init : ∀ z, xCm (Cf z) MX11_init 0 := fun z => ⟨(bw 92 (by decide +kernel) rfl), (bw 1242 (by decide +kernel) rfl), by decide +kernel, by decide, by decide +kernel⟩
theorem gL_12 : ∀ z, xCi (Cf z) RL 12 MX11_init 0 ∨ ∃ h, xCiN (Cf z) RL 12 MX11_init 0 h := fun z => Or.inl ⟨cmX11_init z, (bw 1240 (by decide +kernel) rfl), (bw 1241 (by decide +kernel) rfl), rfl, rfl⟩
theorem cmX10_row : ∀ z, xCm (Cf z) MX10_row 3 := fun z => ⟨(bw 80 (by decide +kernel) rfl), (bw 478 (by decide +kernel) rfl), by decide +kernel, by decide, by decide +kernel⟩
theorem gL_13 : ∀ z, xCv (Cf z) RL 13 MX10_row 3 := fun z => ⟨cmX10_row z, (bw 475 (by decide +kernel) rfl), (bw 476 (by decide +kernel) rfl), (bw 477 (by decide +kernel) rfl)⟩
theorem cmX11_row : ∀ z, xCm (Cf z) MX11_row 3 := fun z => ⟨(bw 92 (by decide +kernel) rfl), (bw 1479 (by decide +kernel) rfl), by decide +kernel, by decide, by decide +kernel⟩
theorem gL_17 : ∀ z, xCv (Cf z) RL 17 MX11_row 3 := fun z => ⟨cmX11_row z, (bw 1476 (by decide +kernel) rfl), (bw 1477 (by decide +kernel) rfl), (bw 1478 (by decide +kernel) rfl)⟩
theorem cmX10_set : ∀ z, xCm (Cf z) MX10_set 3 := fun z => ⟨(bw 80 (by decide +kernel) rfl), (bw 496 (by decide +kernel) rfl), by decide +kernel, by decide, by decide +kernel⟩
theorem gL_20 : ∀ z, xCv (Cf z) RL 20 MX10_set 3 := fun z => ⟨cmX10_set z, (bw 493 (by decide +kernel) rfl), (bw 494 (by decide +kernel) rfl), (bw 495 (by decide +kernel) rfl)⟩
theorem cmX11_set : ∀ z, xCm (Cf z) MX11_set 3 := fun z => ⟨(bw 92 (by decide +kernel) rfl), (bw 1491 (by decide +kernel) rfl), by decide +kernel, by decide, by decide +kernel⟩
theorem gL_24 : ∀ z, xCv (Cf z) RL 24 MX11_set 3 := fun z => ⟨cmX11_set z, (bw 1488 (by decide +kernel) rfl), (bw 1489 (by decide +kernel) rfl), (bw 1490 (by decide +kernel) rfl)⟩
theorem cmX10_copy : ∀ z, xCm (Cf z) MX10_copy 5 := fun z => ⟨(bw 80 (by decide +kernel) rfl), (bw 530 (by decide +kernel) rfl), by decide +kernel, by decide, by decide +kernel⟩
theorem gL_25 : ∀ z, xCv (Cf z) RL 25 MX10_copy 5 := fun z => ⟨cmX10_copy z, (bw 527 (by decide +kernel) rfl), (bw 528 (by decide +kernel) rfl), (bw 529 (by decide +kernel) rfl)⟩
theorem cmX11_copy : ∀ z, xCm (Cf z) MX11_copy 5 := fun z => ⟨(bw 92 (by decide +kernel) rfl), (bw 1495 (by decide +kernel) rfl), by decide +kernel, by decide, by decide +kernel⟩
theorem gL_29 : ∀ z, xCv (Cf z) RL 29 MX11_copy 5 := fun z => ⟨cmX11_copy z, (bw 1492 (by decide +kernel) rfl), (bw 1493 (by decide +kernel) rfl), (bw 1494 (by decide +kernel) rfl)⟩
theorem cmX10_element : ∀ z, xCm (Cf z) MX10_element 2 := fun z => ⟨(bw 80 (by decide +kernel) rfl), (bw 548 (by decide +kernel) rfl), by decide +kernel, by decide, by decide +kernel⟩
theorem gL_30 : ∀ z, xCv (Cf z) RL 30 MX10_element 2 := fun z => ⟨cmX10_element z, (bw 545 (by decide +kernel) rfl), (bw 546 (by decide +kernel) rfl), (bw 547 (by decide +kernel) rfl)⟩
theorem cmX11_element : ∀ z, xCm (Cf z) MX11_element 2 := fun z => ⟨(bw 92 (by decide +kernel) rfl), (bw 1499 (by decide +kernel) rfl), by decide +kernel, by decide, by decide +kernel⟩
theorem gL_34 : ∀ z, xCv (Cf z) RL 34 MX11_element 2 := fun z => ⟨cmX11_element z, (bw 1496 (by decide +kernel) rfl), (bw 1497 (by decide +kernel) rfl), (bw 1498 (by decide +kernel) rfl)⟩
theorem cmX10_show : ∀ z, xCm (Cf z) MX10_show 2 := fun z => ⟨(bw 80 (by decide +kernel) rfl), (bw 556 (by decide +kernel) rfl), by decide +kernel, by decide, by decide +kernel⟩
theorem gL_35 : ∀ z, xCv (Cf z) RL 35 MX10_show 2 := fun z => ⟨cmX10_show z, (bw 553 (by decide +kernel) rfl), (bw 554 (by decide +kernel) rfl), (bw 555 (by decide +kernel) rfl)⟩
theorem cmX11_show : ∀ z, xCm (Cf z) MX11_show 2 := fun z => ⟨(bw 92 (by decide +kernel) rfl), (bw 1503 (by decide +kernel) rfl), by decide +kernel, by decide, by decide +kernel⟩
theorem gL_39 : ∀ z, xCv (Cf z) RL 39 MX11_show 2 := fun z => ⟨cmX11_show z, (bw 1500 (by decide +kernel) rfl), (bw 1501 (by decide +kernel) rfl), (bw 1502 (by decide +kernel) rfl)⟩
theorem cmX10_holds : ∀ z, xCm (Cf z) MX10_holds 1 := fun z => ⟨(bw 80 (by decide +kernel) rfl), (bw 572 (by decide +kernel) rfl), by decide +kernel, by decide, by decide +kernel⟩
theorem gL_40 : ∀ z, xCv (Cf z) RL 40 MX10_holds 1 := fun z => ⟨cmX10_holds z, (bw 569 (by decide +kernel) rfl), (bw 570 (by decide +kernel) rfl), (bw 571 (by decide +kernel) rfl)⟩
theorem cmX11_holds : ∀ z, xCm (Cf z) MX11_holds 1 := fun z => ⟨(bw 92 (by decide +kernel) rfl), (bw 1511 (by decide +kernel) rfl), by decide +kernel, by decide, by decide +kernel⟩
theorem gL_44 : ∀ z, xCv (Cf z) RL 44 MX11_holds 1 := fun z => ⟨cmX11_holds z, (bw 1508 (by decide +kernel) rfl), (bw 1509 (by decide +kernel) rfl), (bw 1510 (by decide +kernel) rfl)⟩
theorem cmX10_says : ∀ z, xCm (Cf z) MX10_says 2 := fun z => ⟨(bw 80 (by decide +kernel) rfl), (bw 580 (by decide +kernel) rfl), by decide +kernel, by decide, by decide +kernel⟩
theorem gL_45 : ∀ z, xCv (Cf z) RL 45 MX10_says 2 := fun z => ⟨cmX10_says z, (bw 577 (by decide +kernel) rfl), (bw 578 (by decide +kernel) rfl), (bw 579 (by decide +kernel) rfl)⟩
theorem cmX11_says : ∀ z, xCm (Cf z) MX11_says 2 := fun z => ⟨(bw 92 (by decide +kernel) rfl), (bw 1515 (by decide +kernel) rfl), by decide +kernel, by decide, by decide +kernel⟩
theorem gL_48 : ∀ z, xCv (Cf z) RL 48 MX11_says 2 := fun z => ⟨cmX11_says z, (bw 1512 (by decide +kernel) rfl), (bw 1513 (by decide +kernel) rfl), (bw 1514 (by decide +kernel) rfl)⟩
theorem cmX10_person : ∀ z, xCm (Cf z) MX10_person 5 := fun z => ⟨(bw 80 (by decide +kernel) rfl), (bw 605 (by decide +kernel) rfl), by decide +kernel, by decide, by decide +kernel⟩
theorem gL_49 : ∀ z, xCv (Cf z) RL 49 MX10_person 5 := fun z => ⟨cmX10_person z, (bw 602 (by decide +kernel) rfl), (bw 603 (by decide +kernel) rfl), (bw 604 (by decide +kernel) rfl)⟩
theorem cmX11_person : ∀ z, xCm (Cf z) MX11_person 5 := fun z => ⟨(bw 92 (by decide +kernel) rfl), (bw 1519 (by decide +kernel) rfl), by decide +kernel, by decide, by decide +kernel⟩
theorem gL_53 : ∀ z, xCv (Cf z) RL 53 MX11_person 5 := fun z => ⟨cmX11_person z, (bw 1516 (by decide +kernel) rfl), (bw 1517 (by decide +kernel) rfl), (bw 1518 (by decide +kernel) rfl)⟩
theorem cmX10_go : ∀ z, xCm (Cf z) MX10_go 2 := fun z => ⟨(bw 80 (by decide +kernel) rfl), (bw 623 (by decide +kernel) rfl), by decide +kernel, by decide, by decide +kernel⟩
theorem gL_54 : ∀ z, xCv (Cf z) RL 54 MX10_go 2 := fun z => ⟨cmX10_go z, (bw 620 (by decide +kernel) rfl), (bw 621 (by decide +kernel) rfl), (bw 622 (by decide +kernel) rfl)⟩
theorem cmX11_go : ∀ z, xCm (Cf z) MX11_go 2 := fun z => ⟨(bw 92 (by decide +kernel) rfl), (bw 1531 (by decide +kernel) rfl), by decide +kernel, by decide, by decide +kernel⟩
theorem gL_57 : ∀ z, xCv (Cf z) RL 57 MX11_go 2 := fun z => ⟨cmX11_go z, (bw 1528 (by decide +kernel) rfl), (bw 1529 (by decide +kernel) rfl), (bw 1530 (by decide +kernel) rfl)⟩
theorem cmX10_source : ∀ z, xCm (Cf z) MX10_source 4 := fun z => ⟨(bw 80 (by decide +kernel) rfl), (bw 631 (by decide +kernel) rfl), by decide +kernel, by decide, by decide +kernel⟩
theorem gL_58 : ∀ z, xCv (Cf z) RL 58 MX10_source 4 := fun z => ⟨cmX10_source z, (bw 628 (by decide +kernel) rfl), (bw 629 (by decide +kernel) rfl), (bw 630 (by decide +kernel) rfl)⟩
theorem cmX11_source : ∀ z, xCm (Cf z) MX11_source 4 := fun z => ⟨(bw 92 (by decide +kernel) rfl), (bw 1539 (by decide +kernel) rfl), by decide +kernel, by decide, by decide +kernel⟩
theorem gL_62 : ∀ z, xCv (Cf z) RL 62 MX11_source 4 := fun z => ⟨cmX11_source z, (bw 1536 (by decide +kernel) rfl), (bw 1537 (by decide +kernel) rfl), (bw 1538 (by decide +kernel) rfl)⟩
theorem cmX10_hours : ∀ z, xCm (Cf z) MX10_hours 3 := fun z => ⟨(bw 80 (by decide +kernel) rfl), (bw 652 (by decide +kernel) rfl), by decide +kernel, by decide, by decide +kernel⟩
theorem gL_63 : ∀ z, xCv (Cf z) RL 63 MX10_hours 3 := fun z => ⟨cmX10_hours z, (bw 649 (by decide +kernel) rfl), (bw 650 (by decide +kernel) rfl), (bw 651 (by decide +kernel) rfl)⟩
theorem cmX11_hours : ∀ z, xCm (Cf z) MX11_hours 3 := fun z => ⟨(bw 92 (by decide +kernel) rfl), (bw 1543 (by decide +kernel) rfl), by decide +kernel, by decide, by decide +kernel⟩
theorem gL_66 : ∀ z, xCv (Cf z) RL 66 MX11_hours 3 := fun z => ⟨cmX11_hours z, (bw 1540 (by decide +kernel) rfl), (bw 1541 (by decide +kernel) rfl), (bw 1542 (by decide +kernel) rfl)⟩
theorem cmX10_cost : ∀ z, xCm (Cf z) MX10_cost 2 := fun z => ⟨(bw 80 (by decide +kernel) rfl), (bw 657 (by decide +kernel) rfl), by decide +kernel, by decide, by decide +kernel⟩
theorem gL_67 : ∀ z, xCv (Cf z) RL 67 MX10_cost 2 := fun z => ⟨cmX10_cost z, (bw 654 (by decide +kernel) rfl), (bw 655 (by decide +kernel) rfl), (bw 656 (by decide +kernel) rfl)⟩
theorem cmX11_cost : ∀ z, xCm (Cf z) MX11_cost 2 := fun z => ⟨(bw 92 (by decide +kernel) rfl), (bw 1547 (by decide +kernel) rfl), by decide +kernel, by decide, by decide +kernel⟩
theorem gL_70 : ∀ z, xCv (Cf z) RL 70 MX11_cost 2 := fun z => ⟨cmX11_cost z, (bw 1544 (by decide +kernel) rfl), (bw 1545 (by decide +kernel) rfl), (bw 1546 (by decide +kernel) rfl)⟩
theorem cmX10_off : ∀ z, xCm (Cf z) MX10_off 2 := fun z => ⟨(bw 80 (by decide +kernel) rfl), (bw 661 (by decide +kernel) rfl), by decide +kernel, by decide, by decide +kernel⟩
theorem gL_71 : ∀ z, xCv (Cf z) RL 71 MX10_off 2 := fun z => ⟨cmX10_off z, (bw 658 (by decide +kernel) rfl), (bw 659 (by decide +kernel) rfl), (bw 660 (by decide +kernel) rfl)⟩
theorem cmX11_off : ∀ z, xCm (Cf z) MX11_off 2 := fun z => ⟨(bw 92 (by decide +kernel) rfl), (bw 1551 (by decide +kernel) rfl), by decide +kernel, by decide, by decide +kernel⟩
theorem gL_75 : ∀ z, xCv (Cf z) RL 75 MX11_off 2 := fun z => ⟨cmX11_off z, (bw 1548 (by decide +kernel) rfl), (bw 1549 (by decide +kernel) rfl), (bw 1550 (by decide +kernel) rfl)⟩
theorem cmX10_size : ∀ z, xCm (Cf z) MX10_size 2 := fun z => ⟨(bw 80 (by decide +kernel) rfl), (bw 666 (by decide +kernel) rfl), by decide +kernel, by decide, by decide +kernel⟩
theorem gL_76 : ∀ z, xCv (Cf z) RL 76 MX10_size 2 := fun z => ⟨cmX10_size z, (bw 663 (by decide +kernel) rfl), (bw 664 (by decide +kernel) rfl), (bw 665 (by decide +kernel) rfl)⟩
theorem cmX11_size : ∀ z, xCm (Cf z) MX11_size 2 := fun z => ⟨(bw 92 (by decide +kernel) rfl), (bw 1555 (by decide +kernel) rfl), by decide +kernel, by decide, by decide +kernel⟩
theorem gL_79 : ∀ z, xCv (Cf z) RL 79 MX11_size 2 := fun z => ⟨cmX11_size z, (bw 1552 (by decide +kernel) rfl), (bw 1553 (by decide +kernel) rfl), (bw 1554 (by decide +kernel) rfl)⟩
theorem cmX10_weather : ∀ z, xCm (Cf z) MX10_weather 2 := fun z => ⟨(bw 80 (by decide +kernel) rfl), (bw 670 (by decide +kernel) rfl), by decide +kernel, by decide, by decide +kernel⟩
theorem gL_80 : ∀ z, xCv (Cf z) RL 80 MX10_weather 2 := fun z => ⟨cmX10_weather z, (bw 667 (by decide +kernel) rfl), (bw 668 (by decide +kernel) rfl), (bw 669 (by decide +kernel) rfl)⟩
theorem cmX11_weather : ∀ z, xCm (Cf z) MX11_weather 2 := fun z => ⟨(bw 92 (by decide +kernel) rfl), (bw 1559 (by decide +kernel) rfl), by decide +kernel, by decide, by decide +kernel⟩
theorem gL_83 : ∀ z, xCv (Cf z) RL 83 MX11_weather 2 := fun z => ⟨cmX11_weather z, (bw 1556 (by decide +kernel) rfl), (bw 1557 (by decide +kernel) rfl), (bw 1558 (by decide +kernel) rfl)⟩
theorem cmX10_pass : ∀ z, xCm (Cf z) MX10_pass 1 := fun z => ⟨(bw 80 (by decide +kernel) rfl), (bw 674 (by decide +kernel) rfl), by decide +kernel, by decide, by decide +kernel⟩
theorem gL_84 : ∀ z, xCv (Cf z) RL 84 MX10_pass 1 := fun z => ⟨cmX10_pass z, (bw 671 (by decide +kernel) rfl), (bw 672 (by decide +kernel) rfl), (bw 673 (by decide +kernel) rfl)⟩
theorem cmX11_pass : ∀ z, xCm (Cf z) MX11_pass 1 := fun z => ⟨(bw 92 (by decide +kernel) rfl), (bw 1563 (by decide +kernel) rfl), by decide +kernel, by decide, by decide +kernel⟩
theorem gL_87 : ∀ z, xCv (Cf z) RL 87 MX11_pass 1 := fun z => ⟨cmX11_pass z, (bw 1560 (by decide +kernel) rfl), (bw 1561 (by decide +kernel) rfl), (bw 1562 (by decide +kernel) rfl)⟩
theorem cmX10_laws : ∀ z, xCm (Cf z) MX10_laws 1 := fun z => ⟨(bw 80 (by decide +kernel) rfl), (bw 681 (by decide +kernel) rfl), by decide +kernel, by decide, by decide +kernel⟩
theorem gL_88 : ∀ z, xCv (Cf z) RL 88 MX10_laws 1 := fun z => ⟨cmX10_laws z, (bw 678 (by decide +kernel) rfl), (bw 679 (by decide +kernel) rfl), (bw 680 (by decide +kernel) rfl)⟩
theorem cmX11_laws : ∀ z, xCm (Cf z) MX11_laws 1 := fun z => ⟨(bw 92 (by decide +kernel) rfl), (bw 1567 (by decide +kernel) rfl), by decide +kernel, by decide, by decide +kernel⟩
theorem gL_91 : ∀ z, xCv (Cf z) RL 91 MX11_laws 1 := fun z => ⟨cmX11_laws z, (bw 1564 (by decide +kernel) rfl), (bw 1565 (by decide +kernel) rfl), (bw 1566 (by decide +kernel) rfl)⟩
theorem cmX10_law : ∀ z, xCm (Cf z) MX10_law 1 := fun z => ⟨(bw 80 (by decide +kernel) rfl), (bw 803 (by decide +kernel) rfl), by decide +kernel, by decide, by decide +kernel⟩
theorem gL_92 : ∀ z, xCv (Cf z) RL 92 MX10_law 1 := fun z => ⟨cmX10_law z, (bw 800 (by decide +kernel) rfl), (bw 801 (by decide +kernel) rfl), (bw 802 (by decide +kernel) rfl)⟩
theorem cmX11_law : ∀ z, xCm (Cf z) MX11_law 1 := fun z => ⟨(bw 92 (by decide +kernel) rfl), (bw 1611 (by decide +kernel) rfl), by decide +kernel, by decide, by decide +kernel⟩
theorem gL_95 : ∀ z, xCv (Cf z) RL 95 MX11_law 1 := fun z => ⟨cmX11_law z, (bw 1608 (by decide +kernel) rfl), (bw 1609 (by decide +kernel) rfl), (bw 1610 (by decide +kernel) rfl)⟩
theorem cmX10_plan : ∀ z, xCm (Cf z) MX10_plan 1 := fun z => ⟨(bw 80 (by decide +kernel) rfl), (bw 807 (by decide +kernel) rfl), by decide +kernel, by decide, by decide +kernel⟩
theorem gL_96 : ∀ z, xCv (Cf z) RL 96 MX10_plan 1 := fun z => ⟨cmX10_plan z, (bw 804 (by decide +kernel) rfl), (bw 805 (by decide +kernel) rfl), (bw 806 (by decide +kernel) rfl)⟩
theorem cmX11_plan : ∀ z, xCm (Cf z) MX11_plan 1 := fun z => ⟨(bw 92 (by decide +kernel) rfl), (bw 1615 (by decide +kernel) rfl), by decide +kernel, by decide, by decide +kernel⟩
theorem gL_99 : ∀ z, xCv (Cf z) RL 99 MX11_plan 1 := fun z => ⟨cmX11_plan z, (bw 1612 (by decide +kernel) rfl), (bw 1613 (by decide +kernel) rfl), (bw 1614 (by decide +kernel) rfl)⟩
theorem cmX10_fault : ∀ z, xCm (Cf z) MX10_fault 0 := fun z => ⟨(bw 80 (by decide +kernel) rfl), (bw 837 (by decide +kernel) rfl), by decide +kernel, by decide, by decide +kernel⟩
theorem gL_100 : ∀ z, xCv (Cf z) RL 100 MX10_fault 0 := fun z => ⟨cmX10_fault z, (bw 834 (by decide +kernel) rfl), (bw 835 (by decide +kernel) rfl), (bw 836 (by decide +kernel) rfl)⟩
theorem cmX11_fault : ∀ z, xCm (Cf z) MX11_fault 0 := fun z => ⟨(bw 92 (by decide +kernel) rfl), (bw 1619 (by decide +kernel) rfl), by decide +kernel, by decide, by decide +kernel⟩
theorem gL_104 : ∀ z, xCv (Cf z) RL 104 MX11_fault 0 := fun z => ⟨cmX11_fault z, (bw 1616 (by decide +kernel) rfl), (bw 1617 (by decide +kernel) rfl), (bw 1618 (by decide +kernel) rfl)⟩
theorem cmX10_force : ∀ z, xCm (Cf z) MX10_force 1 := fun z => ⟨(bw 80 (by decide +kernel) rfl), (bw 841 (by decide +kernel) rfl), by decide +kernel, by decide, by decide +kernel⟩
theorem gL_105 : ∀ z, xCv (Cf z) RL 105 MX10_force 1 := fun z => ⟨cmX10_force z, (bw 838 (by decide +kernel) rfl), (bw 839 (by decide +kernel) rfl), (bw 840 (by decide +kernel) rfl)⟩
theorem cmX11_force : ∀ z, xCm (Cf z) MX11_force 1 := fun z => ⟨(bw 92 (by decide +kernel) rfl), (bw 1623 (by decide +kernel) rfl), by decide +kernel, by decide, by decide +kernel⟩
theorem gL_108 : ∀ z, xCv (Cf z) RL 108 MX11_force 1 := fun z => ⟨cmX11_force z, (bw 1620 (by decide +kernel) rfl), (bw 1621 (by decide +kernel) rfl), (bw 1622 (by decide +kernel) rfl)⟩
theorem cmX10_sounds : ∀ z, xCm (Cf z) MX10_sounds 2 := fun z => ⟨(bw 80 (by decide +kernel) rfl), (bw 845 (by decide +kernel) rfl), by decide +kernel, by decide, by decide +kernel⟩
theorem gL_109 : ∀ z, xCv (Cf z) RL 109 MX10_sounds 2 := fun z => ⟨cmX10_sounds z, (bw 842 (by decide +kernel) rfl), (bw 843 (by decide +kernel) rfl), (bw 844 (by decide +kernel) rfl)⟩
theorem cmX11_sounds : ∀ z, xCm (Cf z) MX11_sounds 2 := fun z => ⟨(bw 92 (by decide +kernel) rfl), (bw 1627 (by decide +kernel) rfl), by decide +kernel, by decide, by decide +kernel⟩
theorem gL_112 : ∀ z, xCv (Cf z) RL 112 MX11_sounds 2 := fun z => ⟨cmX11_sounds z, (bw 1624 (by decide +kernel) rfl), (bw 1625 (by decide +kernel) rfl), (bw 1626 (by decide +kernel) rfl)⟩
theorem cmX10_reach : ∀ z, xCm (Cf z) MX10_reach 2 := fun z => ⟨(bw 80 (by decide +kernel) rfl), (bw 887 (by decide +kernel) rfl), by decide +kernel, by decide, by decide +kernel⟩
theorem gL_113 : ∀ z, xCv (Cf z) RL 113 MX10_reach 2 := fun z => ⟨cmX10_reach z, (bw 884 (by decide +kernel) rfl), (bw 885 (by decide +kernel) rfl), (bw 886 (by decide +kernel) rfl)⟩
theorem cmX11_reach : ∀ z, xCm (Cf z) MX11_reach 2 := fun z => ⟨(bw 92 (by decide +kernel) rfl), (bw 1663 (by decide +kernel) rfl), by decide +kernel, by decide, by decide +kernel⟩
theorem gL_116 : ∀ z, xCv (Cf z) RL 116 MX11_reach 2 := fun z => ⟨cmX11_reach z, (bw 1660 (by decide +kernel) rfl), (bw 1661 (by decide +kernel) rfl), (bw 1662 (by decide +kernel) rfl)⟩
theorem cmX10_needs : ∀ z, xCm (Cf z) MX10_needs 2 := fun z => ⟨(bw 80 (by decide +kernel) rfl), (bw 909 (by decide +kernel) rfl), by decide +kernel, by decide, by decide +kernel⟩
theorem gL_117 : ∀ z, xCv (Cf z) RL 117 MX10_needs 2 := fun z => ⟨cmX10_needs z, (bw 906 (by decide +kernel) rfl), (bw 907 (by decide +kernel) rfl), (bw 908 (by decide +kernel) rfl)⟩
theorem cmX11_needs : ∀ z, xCm (Cf z) MX11_needs 2 := fun z => ⟨(bw 92 (by decide +kernel) rfl), (bw 1675 (by decide +kernel) rfl), by decide +kernel, by decide, by decide +kernel⟩
theorem gL_120 : ∀ z, xCv (Cf z) RL 120 MX11_needs 2 := fun z => ⟨cmX11_needs z, (bw 1672 (by decide +kernel) rfl), (bw 1673 (by decide +kernel) rfl), (bw 1674 (by decide +kernel) rfl)⟩
theorem cmX10_hears : ∀ z, xCm (Cf z) MX10_hears 2 := fun z => ⟨(bw 80 (by decide +kernel) rfl), (bw 918 (by decide +kernel) rfl), by decide +kernel, by decide, by decide +kernel⟩
theorem gL_121 : ∀ z, xCv (Cf z) RL 121 MX10_hears 2 := fun z => ⟨cmX10_hears z, (bw 915 (by decide +kernel) rfl), (bw 916 (by decide +kernel) rfl), (bw 917 (by decide +kernel) rfl)⟩
theorem cmX11_hears : ∀ z, xCm (Cf z) MX11_hears 2 := fun z => ⟨(bw 92 (by decide +kernel) rfl), (bw 1683 (by decide +kernel) rfl), by decide +kernel, by decide, by decide +kernel⟩
theorem gL_124 : ∀ z, xCv (Cf z) RL 124 MX11_hears 2 := fun z => ⟨cmX11_hears z, (bw 1680 (by decide +kernel) rfl), (bw 1681 (by decide +kernel) rfl), (bw 1682 (by decide +kernel) rfl)⟩
theorem cmX10_loudest : ∀ z, xCm (Cf z) MX10_loudest 2 := fun z => ⟨(bw 80 (by decide +kernel) rfl), (bw 937 (by decide +kernel) rfl), by decide +kernel, by decide, by decide +kernel⟩
theorem gL_125 : ∀ z, xCv (Cf z) RL 125 MX10_loudest 2 := fun z => ⟨cmX10_loudest z, (bw 934 (by decide +kernel) rfl), (bw 935 (by decide +kernel) rfl), (bw 936 (by decide +kernel) rfl)⟩
theorem cmX11_loudest : ∀ z, xCm (Cf z) MX11_loudest 2 := fun z => ⟨(bw 92 (by decide +kernel) rfl), (bw 1699 (by decide +kernel) rfl), by decide +kernel, by decide, by decide +kernel⟩
theorem gL_128 : ∀ z, xCv (Cf z) RL 128 MX11_loudest 2 := fun z => ⟨cmX11_loudest z, (bw 1696 (by decide +kernel) rfl), (bw 1697 (by decide +kernel) rfl), (bw 1698 (by decide +kernel) rfl)⟩
theorem cmX10_press : ∀ z, xCm (Cf z) MX10_press 2 := fun z => ⟨(bw 80 (by decide +kernel) rfl), (bw 946 (by decide +kernel) rfl), by decide +kernel, by decide, by decide +kernel⟩
theorem gL_129 : ∀ z, xCv (Cf z) RL 129 MX10_press 2 := fun z => ⟨cmX10_press z, (bw 943 (by decide +kernel) rfl), (bw 944 (by decide +kernel) rfl), (bw 945 (by decide +kernel) rfl)⟩
theorem cmX11_press : ∀ z, xCm (Cf z) MX11_press 2 := fun z => ⟨(bw 92 (by decide +kernel) rfl), (bw 1703 (by decide +kernel) rfl), by decide +kernel, by decide, by decide +kernel⟩
theorem gL_132 : ∀ z, xCv (Cf z) RL 132 MX11_press 2 := fun z => ⟨cmX11_press z, (bw 1700 (by decide +kernel) rfl), (bw 1701 (by decide +kernel) rfl), (bw 1702 (by decide +kernel) rfl)⟩
theorem cmX10_pressed : ∀ z, xCm (Cf z) MX10_pressed 4 := fun z => ⟨(bw 80 (by decide +kernel) rfl), (bw 958 (by decide +kernel) rfl), by decide +kernel, by decide, by decide +kernel⟩
theorem gL_133 : ∀ z, xCv (Cf z) RL 133 MX10_pressed 4 := fun z => ⟨cmX10_pressed z, (bw 955 (by decide +kernel) rfl), (bw 956 (by decide +kernel) rfl), (bw 957 (by decide +kernel) rfl)⟩
theorem cmX11_pressed_ : ∀ z, xCm (Cf z) MX11_pressed_ 4 := fun z => ⟨(bw 92 (by decide +kernel) rfl), (bw 1711 (by decide +kernel) rfl), by decide +kernel, by decide, by decide +kernel⟩
theorem gL_136 : ∀ z, xCv (Cf z) RL 136 MX11_pressed_ 4 := fun z => ⟨cmX11_pressed_ z, (bw 1708 (by decide +kernel) rfl), (bw 1709 (by decide +kernel) rfl), (bw 1710 (by decide +kernel) rfl)⟩
theorem cmX10_match : ∀ z, xCm (Cf z) MX10_match 2 := fun z => ⟨(bw 80 (by decide +kernel) rfl), (bw 978 (by decide +kernel) rfl), by decide +kernel, by decide, by decide +kernel⟩
theorem gL_137 : ∀ z, xCv (Cf z) RL 137 MX10_match 2 := fun z => ⟨cmX10_match z, (bw 975 (by decide +kernel) rfl), (bw 976 (by decide +kernel) rfl), (bw 977 (by decide +kernel) rfl)⟩
theorem cmX11_match : ∀ z, xCm (Cf z) MX11_match 2 := fun z => ⟨(bw 92 (by decide +kernel) rfl), (bw 1719 (by decide +kernel) rfl), by decide +kernel, by decide, by decide +kernel⟩
theorem gL_140 : ∀ z, xCv (Cf z) RL 140 MX11_match 2 := fun z => ⟨cmX11_match z, (bw 1716 (by decide +kernel) rfl), (bw 1717 (by decide +kernel) rfl), (bw 1718 (by decide +kernel) rfl)⟩
theorem cmX10_letter : ∀ z, xCm (Cf z) MX10_letter 2 := fun z => ⟨(bw 80 (by decide +kernel) rfl), (bw 986 (by decide +kernel) rfl), by decide +kernel, by decide, by decide +kernel⟩
theorem gL_141 : ∀ z, xCv (Cf z) RL 141 MX10_letter 2 := fun z => ⟨cmX10_letter z, (bw 983 (by decide +kernel) rfl), (bw 984 (by decide +kernel) rfl), (bw 985 (by decide +kernel) rfl)⟩
theorem cmX11_letter_ : ∀ z, xCm (Cf z) MX11_letter_ 2 := fun z => ⟨(bw 92 (by decide +kernel) rfl), (bw 1723 (by decide +kernel) rfl), by decide +kernel, by decide, by decide +kernel⟩
theorem gL_144 : ∀ z, xCv (Cf z) RL 144 MX11_letter_ 2 := fun z => ⟨cmX11_letter_ z, (bw 1720 (by decide +kernel) rfl), (bw 1721 (by decide +kernel) rfl), (bw 1722 (by decide +kernel) rfl)⟩
theorem cmX10_odds : ∀ z, xCm (Cf z) MX10_odds 2 := fun z => ⟨(bw 80 (by decide +kernel) rfl), (bw 994 (by decide +kernel) rfl), by decide +kernel, by decide, by decide +kernel⟩
theorem gL_145 : ∀ z, xCv (Cf z) RL 145 MX10_odds 2 := fun z => ⟨cmX10_odds z, (bw 991 (by decide +kernel) rfl), (bw 992 (by decide +kernel) rfl), (bw 993 (by decide +kernel) rfl)⟩
theorem cmX11_odds : ∀ z, xCm (Cf z) MX11_odds 2 := fun z => ⟨(bw 92 (by decide +kernel) rfl), (bw 1727 (by decide +kernel) rfl), by decide +kernel, by decide, by decide +kernel⟩
theorem gL_148 : ∀ z, xCv (Cf z) RL 148 MX11_odds 2 := fun z => ⟨cmX11_odds z, (bw 1724 (by decide +kernel) rfl), (bw 1725 (by decide +kernel) rfl), (bw 1726 (by decide +kernel) rfl)⟩
theorem cmX10_sure : ∀ z, xCm (Cf z) MX10_sure 2 := fun z => ⟨(bw 80 (by decide +kernel) rfl), (bw 1022 (by decide +kernel) rfl), by decide +kernel, by decide, by decide +kernel⟩
theorem gL_149 : ∀ z, xCv (Cf z) RL 149 MX10_sure 2 := fun z => ⟨cmX10_sure z, (bw 1019 (by decide +kernel) rfl), (bw 1020 (by decide +kernel) rfl), (bw 1021 (by decide +kernel) rfl)⟩
theorem cmX11_sure : ∀ z, xCm (Cf z) MX11_sure 2 := fun z => ⟨(bw 92 (by decide +kernel) rfl), (bw 1735 (by decide +kernel) rfl), by decide +kernel, by decide, by decide +kernel⟩
theorem gL_152 : ∀ z, xCv (Cf z) RL 152 MX11_sure 2 := fun z => ⟨cmX11_sure z, (bw 1732 (by decide +kernel) rfl), (bw 1733 (by decide +kernel) rfl), (bw 1734 (by decide +kernel) rfl)⟩
theorem cmX10_could : ∀ z, xCm (Cf z) MX10_could 2 := fun z => ⟨(bw 80 (by decide +kernel) rfl), (bw 1031 (by decide +kernel) rfl), by decide +kernel, by decide, by decide +kernel⟩
theorem gL_153 : ∀ z, xCv (Cf z) RL 153 MX10_could 2 := fun z => ⟨cmX10_could z, (bw 1028 (by decide +kernel) rfl), (bw 1029 (by decide +kernel) rfl), (bw 1030 (by decide +kernel) rfl)⟩
theorem cmX11_could : ∀ z, xCm (Cf z) MX11_could 2 := fun z => ⟨(bw 92 (by decide +kernel) rfl), (bw 1740 (by decide +kernel) rfl), by decide +kernel, by decide, by decide +kernel⟩
theorem gL_156 : ∀ z, xCv (Cf z) RL 156 MX11_could 2 := fun z => ⟨cmX11_could z, (bw 1737 (by decide +kernel) rfl), (bw 1738 (by decide +kernel) rfl), (bw 1739 (by decide +kernel) rfl)⟩
theorem cmX10_lacks : ∀ z, xCm (Cf z) MX10_lacks 1 := fun z => ⟨(bw 80 (by decide +kernel) rfl), (bw 1041 (by decide +kernel) rfl), by decide +kernel, by decide, by decide +kernel⟩
theorem gL_157 : ∀ z, xCv (Cf z) RL 157 MX10_lacks 1 := fun z => ⟨cmX10_lacks z, (bw 1038 (by decide +kernel) rfl), (bw 1039 (by decide +kernel) rfl), (bw 1040 (by decide +kernel) rfl)⟩
theorem cmX11_lacks : ∀ z, xCm (Cf z) MX11_lacks 1 := fun z => ⟨(bw 92 (by decide +kernel) rfl), (bw 1744 (by decide +kernel) rfl), by decide +kernel, by decide, by decide +kernel⟩
theorem gL_160 : ∀ z, xCv (Cf z) RL 160 MX11_lacks 1 := fun z => ⟨cmX11_lacks z, (bw 1741 (by decide +kernel) rfl), (bw 1742 (by decide +kernel) rfl), (bw 1743 (by decide +kernel) rfl)⟩
theorem cmX10_rid : ∀ z, xCm (Cf z) MX10_rid 3 := fun z => ⟨(bw 80 (by decide +kernel) rfl), (bw 1061 (by decide +kernel) rfl), by decide +kernel, by decide, by decide +kernel⟩
theorem gL_161 : ∀ z, xCv (Cf z) RL 161 MX10_rid 3 := fun z => ⟨cmX10_rid z, (bw 1058 (by decide +kernel) rfl), (bw 1059 (by decide +kernel) rfl), (bw 1060 (by decide +kernel) rfl)⟩
theorem cmX11_rid : ∀ z, xCm (Cf z) MX11_rid 3 := fun z => ⟨(bw 92 (by decide +kernel) rfl), (bw 1748 (by decide +kernel) rfl), by decide +kernel, by decide, by decide +kernel⟩
theorem gL_164 : ∀ z, xCv (Cf z) RL 164 MX11_rid 3 := fun z => ⟨cmX11_rid z, (bw 1745 (by decide +kernel) rfl), (bw 1746 (by decide +kernel) rfl), (bw 1747 (by decide +kernel) rfl)⟩
theorem cmX10_best : ∀ z, xCm (Cf z) MX10_best 3 := fun z => ⟨(bw 80 (by decide +kernel) rfl), (bw 1081 (by decide +kernel) rfl), by decide +kernel, by decide, by decide +kernel⟩
theorem gL_165 : ∀ z, xCv (Cf z) RL 165 MX10_best 3 := fun z => ⟨cmX10_best z, (bw 1078 (by decide +kernel) rfl), (bw 1079 (by decide +kernel) rfl), (bw 1080 (by decide +kernel) rfl)⟩
theorem cmX11_best : ∀ z, xCm (Cf z) MX11_best 3 := fun z => ⟨(bw 92 (by decide +kernel) rfl), (bw 1772 (by decide +kernel) rfl), by decide +kernel, by decide, by decide +kernel⟩
theorem gL_168 : ∀ z, xCv (Cf z) RL 168 MX11_best 3 := fun z => ⟨cmX11_best z, (bw 1769 (by decide +kernel) rfl), (bw 1770 (by decide +kernel) rfl), (bw 1771 (by decide +kernel) rfl)⟩
theorem cmX10_lots : ∀ z, xCm (Cf z) MX10_lots 2 := fun z => ⟨(bw 80 (by decide +kernel) rfl), (bw 1102 (by decide +kernel) rfl), by decide +kernel, by decide, by decide +kernel⟩
theorem gL_169 : ∀ z, xCv (Cf z) RL 169 MX10_lots 2 := fun z => ⟨cmX10_lots z, (bw 1099 (by decide +kernel) rfl), (bw 1100 (by decide +kernel) rfl), (bw 1101 (by decide +kernel) rfl)⟩
theorem cmX11_lots : ∀ z, xCm (Cf z) MX11_lots 2 := fun z => ⟨(bw 92 (by decide +kernel) rfl), (bw 1776 (by decide +kernel) rfl), by decide +kernel, by decide, by decide +kernel⟩
theorem gL_172 : ∀ z, xCv (Cf z) RL 172 MX11_lots 2 := fun z => ⟨cmX11_lots z, (bw 1773 (by decide +kernel) rfl), (bw 1774 (by decide +kernel) rfl), (bw 1775 (by decide +kernel) rfl)⟩
theorem cmX10_need : ∀ z, xCm (Cf z) MX10_need 1 := fun z => ⟨(bw 80 (by decide +kernel) rfl), (bw 1106 (by decide +kernel) rfl), by decide +kernel, by decide, by decide +kernel⟩
theorem gL_173 : ∀ z, xCv (Cf z) RL 173 MX10_need 1 := fun z => ⟨cmX10_need z, (bw 1103 (by decide +kernel) rfl), (bw 1104 (by decide +kernel) rfl), (bw 1105 (by decide +kernel) rfl)⟩
theorem cmX11_need_ : ∀ z, xCm (Cf z) MX11_need_ 1 := fun z => ⟨(bw 92 (by decide +kernel) rfl), (bw 1780 (by decide +kernel) rfl), by decide +kernel, by decide, by decide +kernel⟩
theorem gL_176 : ∀ z, xCv (Cf z) RL 176 MX11_need_ 1 := fun z => ⟨cmX11_need_ z, (bw 1777 (by decide +kernel) rfl), (bw 1778 (by decide +kernel) rfl), (bw 1779 (by decide +kernel) rfl)⟩
theorem cmX10_told : ∀ z, xCm (Cf z) MX10_told 1 := fun z => ⟨(bw 80 (by decide +kernel) rfl), (bw 1053 (by decide +kernel) rfl), by decide +kernel, by decide, by decide +kernel⟩
theorem gL_177 : ∀ z, xCv (Cf z) RL 177 MX10_told 1 := fun z => ⟨cmX10_told z, (bw 1050 (by decide +kernel) rfl), (bw 1051 (by decide +kernel) rfl), (bw 1052 (by decide +kernel) rfl)⟩
theorem cmX11_told : ∀ z, xCm (Cf z) MX11_told 1 := fun z => ⟨(bw 92 (by decide +kernel) rfl), (bw 1785 (by decide +kernel) rfl), by decide +kernel, by decide, by decide +kernel⟩
theorem gL_180 : ∀ z, xCv (Cf z) RL 180 MX11_told 1 := fun z => ⟨cmX11_told z, (bw 1782 (by decide +kernel) rfl), (bw 1783 (by decide +kernel) rfl), (bw 1784 (by decide +kernel) rfl)⟩
theorem cmX10_beats : ∀ z, xCm (Cf z) MX10_beats 2 := fun z => ⟨(bw 80 (by decide +kernel) rfl), (bw 1114 (by decide +kernel) rfl), by decide +kernel, by decide, by decide +kernel⟩
theorem gL_181 : ∀ z, xCv (Cf z) RL 181 MX10_beats 2 := fun z => ⟨cmX10_beats z, (bw 1111 (by decide +kernel) rfl), (bw 1112 (by decide +kernel) rfl), (bw 1113 (by decide +kernel) rfl)⟩
theorem cmX11_beats : ∀ z, xCm (Cf z) MX11_beats 2 := fun z => ⟨(bw 92 (by decide +kernel) rfl), (bw 1789 (by decide +kernel) rfl), by decide +kernel, by decide, by decide +kernel⟩
theorem gL_184 : ∀ z, xCv (Cf z) RL 184 MX11_beats 2 := fun z => ⟨cmX11_beats z, (bw 1786 (by decide +kernel) rfl), (bw 1787 (by decide +kernel) rfl), (bw 1788 (by decide +kernel) rfl)⟩
theorem cmX10_halve : ∀ z, xCm (Cf z) MX10_halve 1 := fun z => ⟨(bw 80 (by decide +kernel) rfl), (bw 1128 (by decide +kernel) rfl), by decide +kernel, by decide, by decide +kernel⟩
theorem gL_185 : ∀ z, xCv (Cf z) RL 185 MX10_halve 1 := fun z => ⟨cmX10_halve z, (bw 1125 (by decide +kernel) rfl), (bw 1126 (by decide +kernel) rfl), (bw 1127 (by decide +kernel) rfl)⟩
theorem cmX11_halve : ∀ z, xCm (Cf z) MX11_halve 1 := fun z => ⟨(bw 92 (by decide +kernel) rfl), (bw 1793 (by decide +kernel) rfl), by decide +kernel, by decide, by decide +kernel⟩
theorem gL_188 : ∀ z, xCv (Cf z) RL 188 MX11_halve 1 := fun z => ⟨cmX11_halve z, (bw 1790 (by decide +kernel) rfl), (bw 1791 (by decide +kernel) rfl), (bw 1792 (by decide +kernel) rfl)⟩
theorem cmX10_meter : ∀ z, xCm (Cf z) MX10_meter 4 := fun z => ⟨(bw 80 (by decide +kernel) rfl), (bw 1132 (by decide +kernel) rfl), by decide +kernel, by decide, by decide +kernel⟩
theorem gL_189 : ∀ z, xCv (Cf z) RL 189 MX10_meter 4 := fun z => ⟨cmX10_meter z, (bw 1129 (by decide +kernel) rfl), (bw 1130 (by decide +kernel) rfl), (bw 1131 (by decide +kernel) rfl)⟩
theorem cmX11_meter : ∀ z, xCm (Cf z) MX11_meter 4 := fun z => ⟨(bw 92 (by decide +kernel) rfl), (bw 1797 (by decide +kernel) rfl), by decide +kernel, by decide, by decide +kernel⟩
theorem gL_192 : ∀ z, xCv (Cf z) RL 192 MX11_meter 4 := fun z => ⟨cmX11_meter z, (bw 1794 (by decide +kernel) rfl), (bw 1795 (by decide +kernel) rfl), (bw 1796 (by decide +kernel) rfl)⟩
theorem cmX10_place : ∀ z, xCm (Cf z) MX10_place 3 := fun z => ⟨(bw 80 (by decide +kernel) rfl), (bw 1143 (by decide +kernel) rfl), by decide +kernel, by decide, by decide +kernel⟩
theorem gL_193 : ∀ z, xCv (Cf z) RL 193 MX10_place 3 := fun z => ⟨cmX10_place z, (bw 1140 (by decide +kernel) rfl), (bw 1141 (by decide +kernel) rfl), (bw 1142 (by decide +kernel) rfl)⟩
theorem cmX11_place : ∀ z, xCm (Cf z) MX11_place 3 := fun z => ⟨(bw 92 (by decide +kernel) rfl), (bw 1805 (by decide +kernel) rfl), by decide +kernel, by decide, by decide +kernel⟩
theorem gL_196 : ∀ z, xCv (Cf z) RL 196 MX11_place 3 := fun z => ⟨cmX11_place z, (bw 1802 (by decide +kernel) rfl), (bw 1803 (by decide +kernel) rfl), (bw 1804 (by decide +kernel) rfl)⟩
theorem cmX10_bed : ∀ z, xCm (Cf z) MX10_bed 3 := fun z => ⟨(bw 80 (by decide +kernel) rfl), (bw 1152 (by decide +kernel) rfl), by decide +kernel, by decide, by decide +kernel⟩
theorem gL_197 : ∀ z, xCv (Cf z) RL 197 MX10_bed 3 := fun z => ⟨cmX10_bed z, (bw 1149 (by decide +kernel) rfl), (bw 1150 (by decide +kernel) rfl), (bw 1151 (by decide +kernel) rfl)⟩
theorem cmX11_bed : ∀ z, xCm (Cf z) MX11_bed 3 := fun z => ⟨(bw 92 (by decide +kernel) rfl), (bw 1809 (by decide +kernel) rfl), by decide +kernel, by decide, by decide +kernel⟩
theorem gL_200 : ∀ z, xCv (Cf z) RL 200 MX11_bed 3 := fun z => ⟨cmX11_bed z, (bw 1806 (by decide +kernel) rfl), (bw 1807 (by decide +kernel) rfl), (bw 1808 (by decide +kernel) rfl)⟩
theorem cmX10_act : ∀ z, xCm (Cf z) MX10_act 3 := fun z => ⟨(bw 80 (by decide +kernel) rfl), (bw 1162 (by decide +kernel) rfl), by decide +kernel, by decide, by decide +kernel⟩
theorem gL_201 : ∀ z, xCv (Cf z) RL 201 MX10_act 3 := fun z => ⟨cmX10_act z, (bw 1159 (by decide +kernel) rfl), (bw 1160 (by decide +kernel) rfl), (bw 1161 (by decide +kernel) rfl)⟩
theorem cmX11_act : ∀ z, xCm (Cf z) MX11_act 3 := fun z => ⟨(bw 92 (by decide +kernel) rfl), (bw 1817 (by decide +kernel) rfl), by decide +kernel, by decide, by decide +kernel⟩
theorem gL_204 : ∀ z, xCv (Cf z) RL 204 MX11_act 3 := fun z => ⟨cmX11_act z, (bw 1814 (by decide +kernel) rfl), (bw 1815 (by decide +kernel) rfl), (bw 1816 (by decide +kernel) rfl)⟩
theorem cmX10_trace : ∀ z, xCm (Cf z) MX10_trace 1 := fun z => ⟨(bw 80 (by decide +kernel) rfl), (bw 1198 (by decide +kernel) rfl), by decide +kernel, by decide, by decide +kernel⟩
theorem gL_205 : ∀ z, xCv (Cf z) RL 205 MX10_trace 1 := fun z => ⟨cmX10_trace z, (bw 1195 (by decide +kernel) rfl), (bw 1196 (by decide +kernel) rfl), (bw 1197 (by decide +kernel) rfl)⟩
theorem cmX11_trace : ∀ z, xCm (Cf z) MX11_trace 1 := fun z => ⟨(bw 92 (by decide +kernel) rfl), (bw 1837 (by decide +kernel) rfl), by decide +kernel, by decide, by decide +kernel⟩
theorem gL_208 : ∀ z, xCv (Cf z) RL 208 MX11_trace 1 := fun z => ⟨cmX11_trace z, (bw 1834 (by decide +kernel) rfl), (bw 1835 (by decide +kernel) rfl), (bw 1836 (by decide +kernel) rfl)⟩
theorem cmX10_image : ∀ z, xCm (Cf z) MX10_image 0 := fun z => ⟨(bw 80 (by decide +kernel) rfl), (bw 1206 (by decide +kernel) rfl), by decide +kernel, by decide, by decide +kernel⟩
theorem gL_209 : ∀ z, xCv (Cf z) RL 209 MX10_image 0 := fun z => ⟨cmX10_image z, (bw 1203 (by decide +kernel) rfl), (bw 1204 (by decide +kernel) rfl), (bw 1205 (by decide +kernel) rfl)⟩
theorem cmX11_image : ∀ z, xCm (Cf z) MX11_image 0 := fun z => ⟨(bw 92 (by decide +kernel) rfl), (bw 1841 (by decide +kernel) rfl), by decide +kernel, by decide, by decide +kernel⟩
theorem gL_212 : ∀ z, xCv (Cf z) RL 212 MX11_image 0 := fun z => ⟨cmX11_image z, (bw 1838 (by decide +kernel) rfl), (bw 1839 (by decide +kernel) rfl), (bw 1840 (by decide +kernel) rfl)⟩
theorem cmX10_restore : ∀ z, xCm (Cf z) MX10_restore 0 := fun z => ⟨(bw 80 (by decide +kernel) rfl), (bw 1233 (by decide +kernel) rfl), by decide +kernel, by decide, by decide +kernel⟩
theorem gL_213 : ∀ z, xCv (Cf z) RL 213 MX10_restore 0 := fun z => ⟨cmX10_restore z, (bw 1230 (by decide +kernel) rfl), (bw 1231 (by decide +kernel) rfl), (bw 1232 (by decide +kernel) rfl)⟩
theorem cmX11_restore : ∀ z, xCm (Cf z) MX11_restore 0 := fun z => ⟨(bw 92 (by decide +kernel) rfl), (bw 1853 (by decide +kernel) rfl), by decide +kernel, by decide, by decide +kernel⟩
theorem gL_216 : ∀ z, xCv (Cf z) RL 216 MX11_restore 0 := fun z => ⟨cmX11_restore z, (bw 1850 (by decide +kernel) rfl), (bw 1851 (by decide +kernel) rfl), (bw 1852 (by decide +kernel) rfl)⟩
theorem cmX10_status : ∀ z, xCm (Cf z) MX10_status 1 := fun z => ⟨(bw 80 (by decide +kernel) rfl), (bw 1237 (by decide +kernel) rfl), by decide +kernel, by decide, by decide +kernel⟩
theorem gL_217 : ∀ z, xCv (Cf z) RL 217 MX10_status 1 := fun z => ⟨cmX10_status z, (bw 1234 (by decide +kernel) rfl), (bw 1235 (by decide +kernel) rfl), (bw 1236 (by decide +kernel) rfl)⟩
theorem cmX11_status : ∀ z, xCm (Cf z) MX11_status 1 := fun z => ⟨(bw 92 (by decide +kernel) rfl), (bw 1857 (by decide +kernel) rfl), by decide +kernel, by decide, by decide +kernel⟩
theorem gL_220 : ∀ z, xCv (Cf z) RL 220 MX11_status 1 := fun z => ⟨cmX11_status z, (bw 1854 (by decide +kernel) rfl), (bw 1855 (by decide +kernel) rfl), (bw 1856 (by decide +kernel) rfl)⟩
theorem kL_18 : ∀ z, Cond.constantLong RL 18 4294967295 ∈ (Cf z).1 := fun z => (bw 1858 (by decide +kernel) rfl)
theorem nL_7 : ∀ z, Cond.classLink RL 7 RX10 ∈ (Cf z).1 ∧ Cond.instantiable RX10 8 ∈ (Cf z).1 ∧ Cond.initialized RX10 ∈ (Cf z).1 := fun z => ⟨(bw 99 (by decide +kernel) rfl), (bw 100 (by decide +kernel) rfl), (bw 80 (by decide +kernel) rfl)⟩
theorem nL_10 : ∀ z, Cond.classLink RL 10 RX11 ∈ (Cf z).1 ∧ Cond.instantiable RX11 77 ∈ (Cf z).1 ∧ Cond.initialized RX11 ∈ (Cf z).1 := fun z => ⟨(bw 1238 (by decide +kernel) rfl), (bw 1239 (by decide +kernel) rfl), (bw 92 (by decide +kernel) rfl)⟩
theorem fX11_9 : ∀ z, xFd (Cf z) RX11 9 11 7 := fun z => ⟨(RX11, TX11, 77), rfl, by decide, (bw 1251 (by decide +kernel) rfl)⟩
theorem fX11_13 : ∀ z, xFd (Cf z) RX11 13 11 8 := fun z => ⟨(RX11, TX11, 77), rfl, by decide, (bw 1252 (by decide +kernel) rfl)⟩
theorem fX11_16 : ∀ z, xFd (Cf z) RX11 16 11 10 := fun z => ⟨(RX11, TX11, 77), rfl, by decide, (bw 1254 (by decide +kernel) rfl)⟩
theorem fX11_20 : ∀ z, xFd (Cf z) RX11 20 11 11 := fun z => ⟨(RX11, TX11, 77), rfl, by decide, (bw 1255 (by decide +kernel) rfl)⟩
theorem fX11_23 : ∀ z, xFd (Cf z) RX11 23 11 12 := fun z => ⟨(RX11, TX11, 77), rfl, by decide, (bw 1256 (by decide +kernel) rfl)⟩
theorem fX11_26 : ∀ z, xFd (Cf z) RX11 26 11 13 := fun z => ⟨(RX11, TX11, 77), rfl, by decide, (bw 1257 (by decide +kernel) rfl)⟩
theorem fX11_29 : ∀ z, xFd (Cf z) RX11 29 11 14 := fun z => ⟨(RX11, TX11, 77), rfl, by decide, (bw 1258 (by decide +kernel) rfl)⟩
theorem fX11_32 : ∀ z, xFd (Cf z) RX11 32 11 15 := fun z => ⟨(RX11, TX11, 77), rfl, by decide, (bw 1259 (by decide +kernel) rfl)⟩
theorem fX11_35 : ∀ z, xFd (Cf z) RX11 35 11 16 := fun z => ⟨(RX11, TX11, 77), rfl, by decide, (bw 1260 (by decide +kernel) rfl)⟩
theorem fX11_38 : ∀ z, xFd (Cf z) RX11 38 11 17 := fun z => ⟨(RX11, TX11, 77), rfl, by decide, (bw 1261 (by decide +kernel) rfl)⟩
theorem fX11_41 : ∀ z, xFd (Cf z) RX11 41 11 18 := fun z => ⟨(RX11, TX11, 77), rfl, by decide, (bw 1262 (by decide +kernel) rfl)⟩
theorem fX11_44 : ∀ z, xFd (Cf z) RX11 44 11 19 := fun z => ⟨(RX11, TX11, 77), rfl, by decide, (bw 1263 (by decide +kernel) rfl)⟩
theorem fX11_47 : ∀ z, xFd (Cf z) RX11 47 11 20 := fun z => ⟨(RX11, TX11, 77), rfl, by decide, (bw 1264 (by decide +kernel) rfl)⟩
theorem fX11_50 : ∀ z, xFd (Cf z) RX11 50 11 21 := fun z => ⟨(RX11, TX11, 77), rfl, by decide, (bw 1265 (by decide +kernel) rfl)⟩
theorem fX11_53 : ∀ z, xFd (Cf z) RX11 53 11 22 := fun z => ⟨(RX11, TX11, 77), rfl, by decide, (bw 1266 (by decide +kernel) rfl)⟩
theorem fX11_56 : ∀ z, xFd (Cf z) RX11 56 11 23 := fun z => ⟨(RX11, TX11, 77), rfl, by decide, (bw 1267 (by decide +kernel) rfl)⟩
theorem fX11_59 : ∀ z, xFd (Cf z) RX11 59 11 24 := fun z => ⟨(RX11, TX11, 77), rfl, by decide, (bw 1268 (by decide +kernel) rfl)⟩
theorem fX11_62 : ∀ z, xFd (Cf z) RX11 62 11 25 := fun z => ⟨(RX11, TX11, 77), rfl, by decide, (bw 1269 (by decide +kernel) rfl)⟩
theorem fX11_65 : ∀ z, xFd (Cf z) RX11 65 11 26 := fun z => ⟨(RX11, TX11, 77), rfl, by decide, (bw 1270 (by decide +kernel) rfl)⟩
theorem fX11_68 : ∀ z, xFd (Cf z) RX11 68 11 27 := fun z => ⟨(RX11, TX11, 77), rfl, by decide, (bw 1271 (by decide +kernel) rfl)⟩
theorem fX11_71 : ∀ z, xFd (Cf z) RX11 71 11 28 := fun z => ⟨(RX11, TX11, 77), rfl, by decide, (bw 1272 (by decide +kernel) rfl)⟩
theorem fX11_74 : ∀ z, xFd (Cf z) RX11 74 11 29 := fun z => ⟨(RX11, TX11, 77), rfl, by decide, (bw 1273 (by decide +kernel) rfl)⟩
theorem fX11_77 : ∀ z, xFd (Cf z) RX11 77 11 30 := fun z => ⟨(RX11, TX11, 77), rfl, by decide, (bw 1274 (by decide +kernel) rfl)⟩
theorem fX11_80 : ∀ z, xFd (Cf z) RX11 80 11 31 := fun z => ⟨(RX11, TX11, 77), rfl, by decide, (bw 1275 (by decide +kernel) rfl)⟩
theorem fX11_83 : ∀ z, xFd (Cf z) RX11 83 11 32 := fun z => ⟨(RX11, TX11, 77), rfl, by decide, (bw 1276 (by decide +kernel) rfl)⟩
theorem fX11_86 : ∀ z, xFd (Cf z) RX11 86 11 33 := fun z => ⟨(RX11, TX11, 77), rfl, by decide, (bw 1277 (by decide +kernel) rfl)⟩
theorem fX11_89 : ∀ z, xFd (Cf z) RX11 89 11 34 := fun z => ⟨(RX11, TX11, 77), rfl, by decide, (bw 1278 (by decide +kernel) rfl)⟩
theorem fX11_92 : ∀ z, xFd (Cf z) RX11 92 11 35 := fun z => ⟨(RX11, TX11, 77), rfl, by decide, (bw 1279 (by decide +kernel) rfl)⟩
theorem fX11_95 : ∀ z, xFd (Cf z) RX11 95 11 36 := fun z => ⟨(RX11, TX11, 77), rfl, by decide, (bw 1280 (by decide +kernel) rfl)⟩
theorem fX11_98 : ∀ z, xFd (Cf z) RX11 98 11 37 := fun z => ⟨(RX11, TX11, 77), rfl, by decide, (bw 1281 (by decide +kernel) rfl)⟩
theorem fX11_101 : ∀ z, xFd (Cf z) RX11 101 11 38 := fun z => ⟨(RX11, TX11, 77), rfl, by decide, (bw 1282 (by decide +kernel) rfl)⟩
theorem fX11_104 : ∀ z, xFd (Cf z) RX11 104 11 39 := fun z => ⟨(RX11, TX11, 77), rfl, by decide, (bw 1283 (by decide +kernel) rfl)⟩
theorem fX11_107 : ∀ z, xFd (Cf z) RX11 107 11 40 := fun z => ⟨(RX11, TX11, 77), rfl, by decide, (bw 1284 (by decide +kernel) rfl)⟩
theorem fX11_110 : ∀ z, xFd (Cf z) RX11 110 11 41 := fun z => ⟨(RX11, TX11, 77), rfl, by decide, (bw 1285 (by decide +kernel) rfl)⟩
theorem fX11_113 : ∀ z, xFd (Cf z) RX11 113 11 42 := fun z => ⟨(RX11, TX11, 77), rfl, by decide, (bw 1286 (by decide +kernel) rfl)⟩
theorem fX11_116 : ∀ z, xFd (Cf z) RX11 116 11 43 := fun z => ⟨(RX11, TX11, 77), rfl, by decide, (bw 1287 (by decide +kernel) rfl)⟩
theorem fX11_119 : ∀ z, xFd (Cf z) RX11 119 11 44 := fun z => ⟨(RX11, TX11, 77), rfl, by decide, (bw 1288 (by decide +kernel) rfl)⟩
theorem fX11_122 : ∀ z, xFd (Cf z) RX11 122 11 45 := fun z => ⟨(RX11, TX11, 77), rfl, by decide, (bw 1289 (by decide +kernel) rfl)⟩
theorem fX11_125 : ∀ z, xFd (Cf z) RX11 125 11 46 := fun z => ⟨(RX11, TX11, 77), rfl, by decide, (bw 1290 (by decide +kernel) rfl)⟩
theorem fX11_128 : ∀ z, xFd (Cf z) RX11 128 11 47 := fun z => ⟨(RX11, TX11, 77), rfl, by decide, (bw 1291 (by decide +kernel) rfl)⟩
theorem fX11_131 : ∀ z, xFd (Cf z) RX11 131 11 48 := fun z => ⟨(RX11, TX11, 77), rfl, by decide, (bw 1292 (by decide +kernel) rfl)⟩
theorem fX11_135 : ∀ z, xFd (Cf z) RX11 135 11 49 := fun z => ⟨(RX11, TX11, 77), rfl, by decide, (bw 1293 (by decide +kernel) rfl)⟩
theorem fX11_138 : ∀ z, xFd (Cf z) RX11 138 11 57 := fun z => ⟨(RX11, TX11, 77), rfl, by decide, (bw 1301 (by decide +kernel) rfl)⟩
theorem fX11_141 : ∀ z, xFd (Cf z) RX11 141 11 58 := fun z => ⟨(RX11, TX11, 77), rfl, by decide, (bw 1302 (by decide +kernel) rfl)⟩
theorem fX11_144 : ∀ z, xFd (Cf z) RX11 144 11 59 := fun z => ⟨(RX11, TX11, 77), rfl, by decide, (bw 1303 (by decide +kernel) rfl)⟩
theorem fX11_147 : ∀ z, xFd (Cf z) RX11 147 11 60 := fun z => ⟨(RX11, TX11, 77), rfl, by decide, (bw 1304 (by decide +kernel) rfl)⟩
theorem fX11_150 : ∀ z, xFd (Cf z) RX11 150 11 61 := fun z => ⟨(RX11, TX11, 77), rfl, by decide, (bw 1305 (by decide +kernel) rfl)⟩
theorem fX11_153 : ∀ z, xFd (Cf z) RX11 153 11 62 := fun z => ⟨(RX11, TX11, 77), rfl, by decide, (bw 1306 (by decide +kernel) rfl)⟩
theorem fX11_156 : ∀ z, xFd (Cf z) RX11 156 11 63 := fun z => ⟨(RX11, TX11, 77), rfl, by decide, (bw 1307 (by decide +kernel) rfl)⟩
theorem fX11_159 : ∀ z, xFd (Cf z) RX11 159 11 64 := fun z => ⟨(RX11, TX11, 77), rfl, by decide, (bw 1308 (by decide +kernel) rfl)⟩
theorem fX11_162 : ∀ z, xFd (Cf z) RX11 162 11 65 := fun z => ⟨(RX11, TX11, 77), rfl, by decide, (bw 1309 (by decide +kernel) rfl)⟩
theorem fX11_165 : ∀ z, xFd (Cf z) RX11 165 11 67 := fun z => ⟨(RX11, TX11, 77), rfl, by decide, (bw 1311 (by decide +kernel) rfl)⟩
theorem fX11_168 : ∀ z, xFd (Cf z) RX11 168 11 76 := fun z => ⟨(RX11, TX11, 77), rfl, by decide, (bw 1320 (by decide +kernel) rfl)⟩
theorem fX11_171 : ∀ z, xFd (Cf z) RX11 171 11 1 := fun z => ⟨(RX11, TX11, 77), rfl, by decide, (bw 1245 (by decide +kernel) rfl)⟩
theorem fX11_174 : ∀ z, xFd (Cf z) RX11 174 11 2 := fun z => ⟨(RX11, TX11, 77), rfl, by decide, (bw 1246 (by decide +kernel) rfl)⟩
theorem fX11_200 : ∀ z, xFd (Cf z) RX11 200 11 0 := fun z => ⟨(RX11, TX11, 77), rfl, by decide, (bw 1244 (by decide +kernel) rfl)⟩
theorem fX11_203 : ∀ z, xFd (Cf z) RX11 203 11 51 := fun z => ⟨(RX11, TX11, 77), rfl, by decide, (bw 1295 (by decide +kernel) rfl)⟩
theorem fX11_206 : ∀ z, xFd (Cf z) RX11 206 11 52 := fun z => ⟨(RX11, TX11, 77), rfl, by decide, (bw 1296 (by decide +kernel) rfl)⟩
theorem fX11_209 : ∀ z, xFd (Cf z) RX11 209 11 50 := fun z => ⟨(RX11, TX11, 77), rfl, by decide, (bw 1294 (by decide +kernel) rfl)⟩
theorem fX11_212 : ∀ z, xFd (Cf z) RX11 212 11 55 := fun z => ⟨(RX11, TX11, 77), rfl, by decide, (bw 1299 (by decide +kernel) rfl)⟩
theorem fX11_222 : ∀ z, xFd (Cf z) RX11 222 11 54 := fun z => ⟨(RX11, TX11, 77), rfl, by decide, (bw 1298 (by decide +kernel) rfl)⟩
theorem fX11_225 : ∀ z, xFd (Cf z) RX11 225 11 53 := fun z => ⟨(RX11, TX11, 77), rfl, by decide, (bw 1297 (by decide +kernel) rfl)⟩
theorem fX11_238 : ∀ z, xFd (Cf z) RX11 238 11 56 := fun z => ⟨(RX11, TX11, 77), rfl, by decide, (bw 1300 (by decide +kernel) rfl)⟩
theorem fX11_257 : ∀ z, xFd (Cf z) RX11 257 11 6 := fun z => ⟨(RX11, TX11, 77), rfl, by decide, (bw 1250 (by decide +kernel) rfl)⟩
theorem fX11_303 : ∀ z, xFd (Cf z) RX11 303 11 3 := fun z => ⟨(RX11, TX11, 77), rfl, by decide, (bw 1247 (by decide +kernel) rfl)⟩
theorem fX11_306 : ∀ z, xFd (Cf z) RX11 306 11 9 := fun z => ⟨(RX11, TX11, 77), rfl, by decide, (bw 1253 (by decide +kernel) rfl)⟩
theorem fX11_316 : ∀ z, xFd (Cf z) RX11 316 11 4 := fun z => ⟨(RX11, TX11, 77), rfl, by decide, (bw 1248 (by decide +kernel) rfl)⟩
theorem fX11_319 : ∀ z, xFd (Cf z) RX11 319 11 5 := fun z => ⟨(RX11, TX11, 77), rfl, by decide, (bw 1249 (by decide +kernel) rfl)⟩
theorem fX11_351 : ∀ z, xFd (Cf z) RX11 351 11 66 := fun z => ⟨(RX11, TX11, 77), rfl, by decide, (bw 1310 (by decide +kernel) rfl)⟩
theorem fX11_371 : ∀ z, xFd (Cf z) RX11 371 11 68 := fun z => ⟨(RX11, TX11, 77), rfl, by decide, (bw 1312 (by decide +kernel) rfl)⟩
theorem fX11_374 : ∀ z, xFd (Cf z) RX11 374 11 69 := fun z => ⟨(RX11, TX11, 77), rfl, by decide, (bw 1313 (by decide +kernel) rfl)⟩
theorem fX11_377 : ∀ z, xFd (Cf z) RX11 377 11 70 := fun z => ⟨(RX11, TX11, 77), rfl, by decide, (bw 1314 (by decide +kernel) rfl)⟩
theorem fX11_380 : ∀ z, xFd (Cf z) RX11 380 11 71 := fun z => ⟨(RX11, TX11, 77), rfl, by decide, (bw 1315 (by decide +kernel) rfl)⟩
theorem fX11_383 : ∀ z, xFd (Cf z) RX11 383 11 72 := fun z => ⟨(RX11, TX11, 77), rfl, by decide, (bw 1316 (by decide +kernel) rfl)⟩
theorem fX11_386 : ∀ z, xFd (Cf z) RX11 386 11 73 := fun z => ⟨(RX11, TX11, 77), rfl, by decide, (bw 1317 (by decide +kernel) rfl)⟩
theorem fX11_389 : ∀ z, xFd (Cf z) RX11 389 11 74 := fun z => ⟨(RX11, TX11, 77), rfl, by decide, (bw 1318 (by decide +kernel) rfl)⟩
theorem fX11_392 : ∀ z, xFd (Cf z) RX11 392 11 75 := fun z => ⟨(RX11, TX11, 77), rfl, by decide, (bw 1319 (by decide +kernel) rfl)⟩
theorem gX11_1 : ∀ z, Cond.methodLink RX11 1 objectInit ∈ (Cf z).1 := fun z => (bw 1243 (by decide +kernel) rfl)
theorem cmX11_isHour : ∀ z, xCm (Cf z) MX11_isHour 1 := fun z => ⟨(bw 92 (by decide +kernel) rfl), (bw 1631 (by decide +kernel) rfl), by decide +kernel, by decide, by decide +kernel⟩
theorem gX11_177 : ∀ z, xCv (Cf z) RX11 177 MX11_isHour 1 := fun z => ⟨cmX11_isHour z, (bw 1628 (by decide +kernel) rfl), (bw 1630 (by decide +kernel) rfl), (bw 49 (by decide +kernel) rfl)⟩
theorem cmX11_isShelf : ∀ z, xCm (Cf z) MX11_isShelf 1 := fun z => ⟨(bw 92 (by decide +kernel) rfl), (bw 1483 (by decide +kernel) rfl), by decide +kernel, by decide, by decide +kernel⟩
theorem gX11_181 : ∀ z, xCv (Cf z) RX11 181 MX11_isShelf 1 := fun z => ⟨cmX11_isShelf z, (bw 1480 (by decide +kernel) rfl), (bw 1482 (by decide +kernel) rfl), (bw 33 (by decide +kernel) rfl)⟩
theorem cmX11_no : ∀ z, xCm (Cf z) MX11_no 1 := fun z => ⟨(bw 92 (by decide +kernel) rfl), (bw 1487 (by decide +kernel) rfl), by decide +kernel, by decide, by decide +kernel⟩
theorem gX11_184 : ∀ z, xCv (Cf z) RX11 184 MX11_no 1 := fun z => ⟨cmX11_no z, (bw 1484 (by decide +kernel) rfl), (bw 1486 (by decide +kernel) rfl), (bw 34 (by decide +kernel) rfl)⟩
theorem cmX11_isSource : ∀ z, xCm (Cf z) MX11_isSource 1 := fun z => ⟨(bw 92 (by decide +kernel) rfl), (bw 1507 (by decide +kernel) rfl), by decide +kernel, by decide, by decide +kernel⟩
theorem gX11_188 : ∀ z, xCv (Cf z) RX11 188 MX11_isSource 1 := fun z => ⟨cmX11_isSource z, (bw 1504 (by decide +kernel) rfl), (bw 1506 (by decide +kernel) rfl), (bw 35 (by decide +kernel) rfl)⟩
theorem cmX11_isSpot : ∀ z, xCm (Cf z) MX11_isSpot 1 := fun z => ⟨(bw 92 (by decide +kernel) rfl), (bw 1523 (by decide +kernel) rfl), by decide +kernel, by decide, by decide +kernel⟩
theorem gX11_191 : ∀ z, xCv (Cf z) RX11 191 MX11_isSpot 1 := fun z => ⟨cmX11_isSpot z, (bw 1520 (by decide +kernel) rfl), (bw 1522 (by decide +kernel) rfl), (bw 36 (by decide +kernel) rfl)⟩
theorem cmX11_isTone : ∀ z, xCm (Cf z) MX11_isTone 1 := fun z => ⟨(bw 92 (by decide +kernel) rfl), (bw 1527 (by decide +kernel) rfl), by decide +kernel, by decide, by decide +kernel⟩
theorem gX11_194 : ∀ z, xCv (Cf z) RX11 194 MX11_isTone 1 := fun z => ⟨cmX11_isTone z, (bw 1524 (by decide +kernel) rfl), (bw 1526 (by decide +kernel) rfl), (bw 37 (by decide +kernel) rfl)⟩
theorem cmX11_isPerson : ∀ z, xCm (Cf z) MX11_isPerson 1 := fun z => ⟨(bw 92 (by decide +kernel) rfl), (bw 1535 (by decide +kernel) rfl), by decide +kernel, by decide, by decide +kernel⟩
theorem gX11_197 : ∀ z, xCv (Cf z) RX11 197 MX11_isPerson 1 := fun z => ⟨cmX11_isPerson z, (bw 1532 (by decide +kernel) rfl), (bw 1534 (by decide +kernel) rfl), (bw 38 (by decide +kernel) rfl)⟩
theorem cmX11_letter : ∀ z, xCm (Cf z) MX11_letter 0 := fun z => ⟨(bw 92 (by decide +kernel) rfl), (bw 1591 (by decide +kernel) rfl), by decide +kernel, by decide, by decide +kernel⟩
theorem gX11_215 : ∀ z, xCv (Cf z) RX11 215 MX11_letter 0 := fun z => ⟨cmX11_letter z, (bw 1588 (by decide +kernel) rfl), (bw 1590 (by decide +kernel) rfl), (bw 44 (by decide +kernel) rfl)⟩
theorem cmX11_wrong : ∀ z, xCm (Cf z) MX11_wrong 1 := fun z => ⟨(bw 92 (by decide +kernel) rfl), (bw 1595 (by decide +kernel) rfl), by decide +kernel, by decide, by decide +kernel⟩
theorem gX11_219 : ∀ z, xCv (Cf z) RX11 219 MX11_wrong 1 := fun z => ⟨cmX11_wrong z, (bw 1592 (by decide +kernel) rfl), (bw 1594 (by decide +kernel) rfl), (bw 45 (by decide +kernel) rfl)⟩
theorem cmX11_isDigit : ∀ z, xCm (Cf z) MX11_isDigit 0 := fun z => ⟨(bw 92 (by decide +kernel) rfl), (bw 1603 (by decide +kernel) rfl), by decide +kernel, by decide, by decide +kernel⟩
theorem gX11_228 : ∀ z, xCv (Cf z) RX11 228 MX11_isDigit 0 := fun z => ⟨cmX11_isDigit z, (bw 1600 (by decide +kernel) rfl), (bw 1602 (by decide +kernel) rfl), (bw 47 (by decide +kernel) rfl)⟩
theorem cmX11_takes : ∀ z, xCm (Cf z) MX11_takes 1 := fun z => ⟨(bw 92 (by decide +kernel) rfl), (bw 1587 (by decide +kernel) rfl), by decide +kernel, by decide, by decide +kernel⟩
theorem gX11_232 : ∀ z, xCv (Cf z) RX11 232 MX11_takes 1 := fun z => ⟨cmX11_takes z, (bw 1584 (by decide +kernel) rfl), (bw 1586 (by decide +kernel) rfl), (bw 43 (by decide +kernel) rfl)⟩
theorem cmX11_number : ∀ z, xCm (Cf z) MX11_number 2 := fun z => ⟨(bw 92 (by decide +kernel) rfl), (bw 1599 (by decide +kernel) rfl), by decide +kernel, by decide, by decide +kernel⟩
theorem gX11_235 : ∀ z, xCv (Cf z) RX11 235 MX11_number 2 := fun z => ⟨cmX11_number z, (bw 1596 (by decide +kernel) rfl), (bw 1598 (by decide +kernel) rfl), (bw 46 (by decide +kernel) rfl)⟩
theorem cmX11_item : ∀ z, xCm (Cf z) MX11_item 0 := fun z => ⟨(bw 92 (by decide +kernel) rfl), (bw 1583 (by decide +kernel) rfl), by decide +kernel, by decide, by decide +kernel⟩
theorem gX11_241 : ∀ z, xCv (Cf z) RX11 241 MX11_item 0 := fun z => ⟨cmX11_item z, (bw 1580 (by decide +kernel) rfl), (bw 1582 (by decide +kernel) rfl), (bw 42 (by decide +kernel) rfl)⟩
theorem cmX11_oneLaw : ∀ z, xCm (Cf z) MX11_oneLaw 0 := fun z => ⟨(bw 92 (by decide +kernel) rfl), (bw 1607 (by decide +kernel) rfl), by decide +kernel, by decide, by decide +kernel⟩
theorem gX11_244 : ∀ z, xCv (Cf z) RX11 244 MX11_oneLaw 0 := fun z => ⟨cmX11_oneLaw z, (bw 1604 (by decide +kernel) rfl), (bw 1606 (by decide +kernel) rfl), (bw 48 (by decide +kernel) rfl)⟩
theorem cmX11_wants : ∀ z, xCm (Cf z) MX11_wants 1 := fun z => ⟨(bw 92 (by decide +kernel) rfl), (bw 1575 (by decide +kernel) rfl), by decide +kernel, by decide, by decide +kernel⟩
theorem gX11_247 : ∀ z, xCv (Cf z) RX11 247 MX11_wants 1 := fun z => ⟨cmX11_wants z, (bw 1572 (by decide +kernel) rfl), (bw 1574 (by decide +kernel) rfl), (bw 40 (by decide +kernel) rfl)⟩
theorem cmX11_reads : ∀ z, xCm (Cf z) MX11_reads 1 := fun z => ⟨(bw 92 (by decide +kernel) rfl), (bw 1579 (by decide +kernel) rfl), by decide +kernel, by decide, by decide +kernel⟩
theorem gX11_250 : ∀ z, xCv (Cf z) RX11 250 MX11_reads 1 := fun z => ⟨cmX11_reads z, (bw 1576 (by decide +kernel) rfl), (bw 1578 (by decide +kernel) rfl), (bw 41 (by decide +kernel) rfl)⟩
theorem cmX11_text : ∀ z, xCm (Cf z) MX11_text 2 := fun z => ⟨(bw 92 (by decide +kernel) rfl), (bw 1571 (by decide +kernel) rfl), by decide +kernel, by decide, by decide +kernel⟩
theorem gX11_253 : ∀ z, xCv (Cf z) RX11 253 MX11_text 2 := fun z => ⟨cmX11_text z, (bw 1568 (by decide +kernel) rfl), (bw 1570 (by decide +kernel) rfl), (bw 39 (by decide +kernel) rfl)⟩
theorem cmX11_isOf : ∀ z, xCm (Cf z) MX11_isOf 2 := fun z => ⟨(bw 92 (by decide +kernel) rfl), (bw 1643 (by decide +kernel) rfl), by decide +kernel, by decide, by decide +kernel⟩
theorem gX11_260 : ∀ z, xCv (Cf z) RX11 260 MX11_isOf 2 := fun z => ⟨cmX11_isOf z, (bw 1640 (by decide +kernel) rfl), (bw 1642 (by decide +kernel) rfl), (bw 52 (by decide +kernel) rfl)⟩
theorem cmX11_isOff : ∀ z, xCm (Cf z) MX11_isOff 2 := fun z => ⟨(bw 92 (by decide +kernel) rfl), (bw 1639 (by decide +kernel) rfl), by decide +kernel, by decide, by decide +kernel⟩
theorem gX11_263 : ∀ z, xCv (Cf z) RX11 263 MX11_isOff 2 := fun z => ⟨cmX11_isOff z, (bw 1636 (by decide +kernel) rfl), (bw 1638 (by decide +kernel) rfl), (bw 51 (by decide +kernel) rfl)⟩
theorem cmX11_apart : ∀ z, xCm (Cf z) MX11_apart 2 := fun z => ⟨(bw 92 (by decide +kernel) rfl), (bw 1659 (by decide +kernel) rfl), by decide +kernel, by decide, by decide +kernel⟩
theorem gX11_266 : ∀ z, xCv (Cf z) RX11 266 MX11_apart 2 := fun z => ⟨cmX11_apart z, (bw 1656 (by decide +kernel) rfl), (bw 1658 (by decide +kernel) rfl), (bw 56 (by decide +kernel) rfl)⟩
theorem cmX11_isFanning : ∀ z, xCm (Cf z) MX11_isFanning 2 := fun z => ⟨(bw 92 (by decide +kernel) rfl), (bw 1647 (by decide +kernel) rfl), by decide +kernel, by decide, by decide +kernel⟩
theorem gX11_270 : ∀ z, xCv (Cf z) RX11 270 MX11_isFanning 2 := fun z => ⟨cmX11_isFanning z, (bw 1644 (by decide +kernel) rfl), (bw 1646 (by decide +kernel) rfl), (bw 53 (by decide +kernel) rfl)⟩
theorem cmX11_isFan : ∀ z, xCm (Cf z) MX11_isFan 1 := fun z => ⟨(bw 92 (by decide +kernel) rfl), (bw 1651 (by decide +kernel) rfl), by decide +kernel, by decide, by decide +kernel⟩
theorem gX11_273 : ∀ z, xCv (Cf z) RX11 273 MX11_isFan 1 := fun z => ⟨cmX11_isFan z, (bw 1648 (by decide +kernel) rfl), (bw 1650 (by decide +kernel) rfl), (bw 54 (by decide +kernel) rfl)⟩
theorem cmX11_beat : ∀ z, xCm (Cf z) MX11_beat 2 := fun z => ⟨(bw 92 (by decide +kernel) rfl), (bw 1655 (by decide +kernel) rfl), by decide +kernel, by decide, by decide +kernel⟩
theorem gX11_276 : ∀ z, xCv (Cf z) RX11 276 MX11_beat 2 := fun z => ⟨cmX11_beat z, (bw 1652 (by decide +kernel) rfl), (bw 1654 (by decide +kernel) rfl), (bw 55 (by decide +kernel) rfl)⟩
theorem cmX11_isTalk : ∀ z, xCm (Cf z) MX11_isTalk 1 := fun z => ⟨(bw 92 (by decide +kernel) rfl), (bw 1671 (by decide +kernel) rfl), by decide +kernel, by decide, by decide +kernel⟩
theorem gX11_279 : ∀ z, xCv (Cf z) RX11 279 MX11_isTalk 1 := fun z => ⟨cmX11_isTalk z, (bw 1668 (by decide +kernel) rfl), (bw 1670 (by decide +kernel) rfl), (bw 58 (by decide +kernel) rfl)⟩
theorem cmX11_level : ∀ z, xCm (Cf z) MX11_level 2 := fun z => ⟨(bw 92 (by decide +kernel) rfl), (bw 1667 (by decide +kernel) rfl), by decide +kernel, by decide, by decide +kernel⟩
theorem gX11_282 : ∀ z, xCv (Cf z) RX11 282 MX11_level 2 := fun z => ⟨cmX11_level z, (bw 1664 (by decide +kernel) rfl), (bw 1666 (by decide +kernel) rfl), (bw 57 (by decide +kernel) rfl)⟩
theorem cmX11_need : ∀ z, xCm (Cf z) MX11_need 2 := fun z => ⟨(bw 92 (by decide +kernel) rfl), (bw 1679 (by decide +kernel) rfl), by decide +kernel, by decide, by decide +kernel⟩
theorem gX11_285 : ∀ z, xCv (Cf z) RX11 285 MX11_need 2 := fun z => ⟨cmX11_need z, (bw 1676 (by decide +kernel) rfl), (bw 1678 (by decide +kernel) rfl), (bw 59 (by decide +kernel) rfl)⟩
theorem cmX11_couldHear : ∀ z, xCm (Cf z) MX11_couldHear 3 := fun z => ⟨(bw 92 (by decide +kernel) rfl), (bw 1695 (by decide +kernel) rfl), by decide +kernel, by decide, by decide +kernel⟩
theorem gX11_288 : ∀ z, xCv (Cf z) RX11 288 MX11_couldHear 3 := fun z => ⟨cmX11_couldHear z, (bw 1692 (by decide +kernel) rfl), (bw 1694 (by decide +kernel) rfl), (bw 62 (by decide +kernel) rfl)⟩
theorem cmX11_isSounding : ∀ z, xCm (Cf z) MX11_isSounding 2 := fun z => ⟨(bw 92 (by decide +kernel) rfl), (bw 1635 (by decide +kernel) rfl), by decide +kernel, by decide, by decide +kernel⟩
theorem gX11_292 : ∀ z, xCv (Cf z) RX11 292 MX11_isSounding 2 := fun z => ⟨cmX11_isSounding z, (bw 1632 (by decide +kernel) rfl), (bw 1634 (by decide +kernel) rfl), (bw 50 (by decide +kernel) rfl)⟩
theorem cmX11_isHearing : ∀ z, xCm (Cf z) MX11_isHearing 4 := fun z => ⟨(bw 92 (by decide +kernel) rfl), (bw 1691 (by decide +kernel) rfl), by decide +kernel, by decide, by decide +kernel⟩
theorem gX11_295 : ∀ z, xCv (Cf z) RX11 295 MX11_isHearing 4 := fun z => ⟨cmX11_isHearing z, (bw 1688 (by decide +kernel) rfl), (bw 1690 (by decide +kernel) rfl), (bw 61 (by decide +kernel) rfl)⟩
theorem cmX11_heard : ∀ z, xCm (Cf z) MX11_heard 3 := fun z => ⟨(bw 92 (by decide +kernel) rfl), (bw 1687 (by decide +kernel) rfl), by decide +kernel, by decide, by decide +kernel⟩
theorem gX11_299 : ∀ z, xCv (Cf z) RX11 299 MX11_heard 3 := fun z => ⟨cmX11_heard z, (bw 1684 (by decide +kernel) rfl), (bw 1686 (by decide +kernel) rfl), (bw 60 (by decide +kernel) rfl)⟩
theorem cmX11_pressed : ∀ z, xCm (Cf z) MX11_pressed 3 := fun z => ⟨(bw 92 (by decide +kernel) rfl), (bw 1707 (by decide +kernel) rfl), by decide +kernel, by decide, by decide +kernel⟩
theorem gX11_309 : ∀ z, xCv (Cf z) RX11 309 MX11_pressed 3 := fun z => ⟨cmX11_pressed z, (bw 1704 (by decide +kernel) rfl), (bw 1706 (by decide +kernel) rfl), (bw 63 (by decide +kernel) rfl)⟩
theorem cmX11_intAt : ∀ z, xCm (Cf z) MX11_intAt 2 := fun z => ⟨(bw 92 (by decide +kernel) rfl), (bw 1715 (by decide +kernel) rfl), by decide +kernel, by decide, by decide +kernel⟩
theorem gX11_313 : ∀ z, xCv (Cf z) RX11 313 MX11_intAt 2 := fun z => ⟨cmX11_intAt z, (bw 1712 (by decide +kernel) rfl), (bw 1714 (by decide +kernel) rfl), (bw 64 (by decide +kernel) rfl)⟩
theorem cmX11_worth : ∀ z, xCm (Cf z) MX11_worth 2 := fun z => ⟨(bw 92 (by decide +kernel) rfl), (bw 1731 (by decide +kernel) rfl), by decide +kernel, by decide, by decide +kernel⟩
theorem gX11_322 : ∀ z, xCv (Cf z) RX11 322 MX11_worth 2 := fun z => ⟨cmX11_worth z, (bw 1728 (by decide +kernel) rfl), (bw 1730 (by decide +kernel) rfl), (bw 65 (by decide +kernel) rfl)⟩
theorem cmX11_sounding : ∀ z, xCm (Cf z) MX11_sounding 2 := fun z => ⟨(bw 92 (by decide +kernel) rfl), (bw 1760 (by decide +kernel) rfl), by decide +kernel, by decide, by decide +kernel⟩
theorem gX11_328 : ∀ z, xCv (Cf z) RX11 328 MX11_sounding 2 := fun z => ⟨cmX11_sounding z, (bw 1757 (by decide +kernel) rfl), (bw 1759 (by decide +kernel) rfl), (bw 68 (by decide +kernel) rfl)⟩
theorem cmX11_heardOf : ∀ z, xCm (Cf z) MX11_heardOf 3 := fun z => ⟨(bw 92 (by decide +kernel) rfl), (bw 1764 (by decide +kernel) rfl), by decide +kernel, by decide, by decide +kernel⟩
theorem gX11_331 : ∀ z, xCv (Cf z) RX11 331 MX11_heardOf 3 := fun z => ⟨cmX11_heardOf z, (bw 1761 (by decide +kernel) rfl), (bw 1763 (by decide +kernel) rfl), (bw 69 (by decide +kernel) rfl)⟩
theorem cmX11_isHours : ∀ z, xCm (Cf z) MX11_isHours 2 := fun z => ⟨(bw 92 (by decide +kernel) rfl), (bw 1752 (by decide +kernel) rfl), by decide +kernel, by decide, by decide +kernel⟩
theorem gX11_334 : ∀ z, xCv (Cf z) RX11 334 MX11_isHours 2 := fun z => ⟨cmX11_isHours z, (bw 1749 (by decide +kernel) rfl), (bw 1751 (by decide +kernel) rfl), (bw 66 (by decide +kernel) rfl)⟩
theorem cmX11_ears : ∀ z, xCm (Cf z) MX11_ears 2 := fun z => ⟨(bw 92 (by decide +kernel) rfl), (bw 1756 (by decide +kernel) rfl), by decide +kernel, by decide, by decide +kernel⟩
theorem gX11_337 : ∀ z, xCv (Cf z) RX11 337 MX11_ears 2 := fun z => ⟨cmX11_ears z, (bw 1753 (by decide +kernel) rfl), (bw 1755 (by decide +kernel) rfl), (bw 67 (by decide +kernel) rfl)⟩
theorem cmX11_ridBy : ∀ z, xCm (Cf z) MX11_ridBy 1 := fun z => ⟨(bw 92 (by decide +kernel) rfl), (bw 1768 (by decide +kernel) rfl), by decide +kernel, by decide, by decide +kernel⟩
theorem gX11_341 : ∀ z, xCv (Cf z) RX11 341 MX11_ridBy 1 := fun z => ⟨cmX11_ridBy z, (bw 1765 (by decide +kernel) rfl), (bw 1767 (by decide +kernel) rfl), (bw 70 (by decide +kernel) rfl)⟩
theorem cmX11_metered : ∀ z, xCm (Cf z) MX11_metered 3 := fun z => ⟨(bw 92 (by decide +kernel) rfl), (bw 1801 (by decide +kernel) rfl), by decide +kernel, by decide, by decide +kernel⟩
theorem gX11_345 : ∀ z, xCv (Cf z) RX11 345 MX11_metered 3 := fun z => ⟨cmX11_metered z, (bw 1798 (by decide +kernel) rfl), (bw 1800 (by decide +kernel) rfl), (bw 71 (by decide +kernel) rfl)⟩
theorem cmX11_many : ∀ z, xCm (Cf z) MX11_many 1 := fun z => ⟨(bw 92 (by decide +kernel) rfl), (bw 1813 (by decide +kernel) rfl), by decide +kernel, by decide, by decide +kernel⟩
theorem gX11_348 : ∀ z, xCv (Cf z) RX11 348 MX11_many 1 := fun z => ⟨cmX11_many z, (bw 1810 (by decide +kernel) rfl), (bw 1812 (by decide +kernel) rfl), (bw 72 (by decide +kernel) rfl)⟩
theorem cmX11_body : ∀ z, xCm (Cf z) MX11_body 1 := fun z => ⟨(bw 92 (by decide +kernel) rfl), (bw 1825 (by decide +kernel) rfl), by decide +kernel, by decide, by decide +kernel⟩
theorem gX11_354 : ∀ z, xCv (Cf z) RX11 354 MX11_body 1 := fun z => ⟨cmX11_body z, (bw 1822 (by decide +kernel) rfl), (bw 1824 (by decide +kernel) rfl), (bw 74 (by decide +kernel) rfl)⟩
theorem cmX11_soundsOf : ∀ z, xCm (Cf z) MX11_soundsOf 2 := fun z => ⟨(bw 92 (by decide +kernel) rfl), (bw 1821 (by decide +kernel) rfl), by decide +kernel, by decide, by decide +kernel⟩
theorem gX11_358 : ∀ z, xCv (Cf z) RX11 358 MX11_soundsOf 2 := fun z => ⟨cmX11_soundsOf z, (bw 1818 (by decide +kernel) rfl), (bw 1820 (by decide +kernel) rfl), (bw 73 (by decide +kernel) rfl)⟩
theorem cmX11_reachesOf : ∀ z, xCm (Cf z) MX11_reachesOf 2 := fun z => ⟨(bw 92 (by decide +kernel) rfl), (bw 1829 (by decide +kernel) rfl), by decide +kernel, by decide, by decide +kernel⟩
theorem gX11_361 : ∀ z, xCv (Cf z) RX11 361 MX11_reachesOf 2 := fun z => ⟨cmX11_reachesOf z, (bw 1826 (by decide +kernel) rfl), (bw 1828 (by decide +kernel) rfl), (bw 75 (by decide +kernel) rfl)⟩
theorem cmX11_hearsOf : ∀ z, xCm (Cf z) MX11_hearsOf 2 := fun z => ⟨(bw 92 (by decide +kernel) rfl), (bw 1833 (by decide +kernel) rfl), by decide +kernel, by decide, by decide +kernel⟩
theorem gX11_364 : ∀ z, xCv (Cf z) RX11 364 MX11_hearsOf 2 := fun z => ⟨cmX11_hearsOf z, (bw 1830 (by decide +kernel) rfl), (bw 1832 (by decide +kernel) rfl), (bw 76 (by decide +kernel) rfl)⟩
theorem cmX11_keeps : ∀ z, xCm (Cf z) MX11_keeps 4 := fun z => ⟨(bw 92 (by decide +kernel) rfl), (bw 1849 (by decide +kernel) rfl), by decide +kernel, by decide, by decide +kernel⟩
theorem gX11_367 : ∀ z, xCv (Cf z) RX11 367 MX11_keeps 4 := fun z => ⟨cmX11_keeps z, (bw 1846 (by decide +kernel) rfl), (bw 1848 (by decide +kernel) rfl), (bw 78 (by decide +kernel) rfl)⟩
theorem cmX11_all : ∀ z, xCm (Cf z) MX11_all 1 := fun z => ⟨(bw 92 (by decide +kernel) rfl), (bw 1845 (by decide +kernel) rfl), by decide +kernel, by decide, by decide +kernel⟩
theorem gX11_395 : ∀ z, xCv (Cf z) RX11 395 MX11_all 1 := fun z => ⟨cmX11_all z, (bw 1842 (by decide +kernel) rfl), (bw 1844 (by decide +kernel) rfl), (bw 77 (by decide +kernel) rfl)⟩
theorem kX11_326 : ∀ z, Cond.constantLong RX11 326 100 ∈ (Cf z).1 := fun z => (bw 1736 (by decide +kernel) rfl)
theorem kX11_344 : ∀ z, Cond.constant RX11 344 1000000 ∈ (Cf z).1 := fun z => (bw 1781 (by decide +kernel) rfl)
theorem pX11_9 : ∀ z, xFp (Cf z) RX11 9 11 7 (.int) := fun z => ⟨(RX11, TX11, 77), rfl, by decide, (bw 1251 (by decide +kernel) rfl), rfl, by decide +kernel⟩
theorem pX11_13 : ∀ z, xFp (Cf z) RX11 13 11 8 (.int) := fun z => ⟨(RX11, TX11, 77), rfl, by decide, (bw 1252 (by decide +kernel) rfl), rfl, by decide +kernel⟩
theorem pX11_16 : ∀ z, xFf (Cf z) RX11 16 11 10 (.array .int) := fun z => ⟨(RX11, TX11, 77), rfl, by decide, (bw 1254 (by decide +kernel) rfl), rfl, rfl, by decide +kernel⟩
theorem pX11_20 : ∀ z, xFf (Cf z) RX11 20 11 11 (.array .int) := fun z => ⟨(RX11, TX11, 77), rfl, by decide, (bw 1255 (by decide +kernel) rfl), rfl, rfl, by decide +kernel⟩
theorem pX11_23 : ∀ z, xFf (Cf z) RX11 23 11 12 (.array .int) := fun z => ⟨(RX11, TX11, 77), rfl, by decide, (bw 1256 (by decide +kernel) rfl), rfl, rfl, by decide +kernel⟩
theorem pX11_26 : ∀ z, xFf (Cf z) RX11 26 11 13 (.array .int) := fun z => ⟨(RX11, TX11, 77), rfl, by decide, (bw 1257 (by decide +kernel) rfl), rfl, rfl, by decide +kernel⟩
theorem pX11_29 : ∀ z, xFf (Cf z) RX11 29 11 14 (.array .int) := fun z => ⟨(RX11, TX11, 77), rfl, by decide, (bw 1258 (by decide +kernel) rfl), rfl, rfl, by decide +kernel⟩
theorem pX11_32 : ∀ z, xFf (Cf z) RX11 32 11 15 (.array .int) := fun z => ⟨(RX11, TX11, 77), rfl, by decide, (bw 1259 (by decide +kernel) rfl), rfl, rfl, by decide +kernel⟩
theorem pX11_35 : ∀ z, xFf (Cf z) RX11 35 11 16 (.array .int) := fun z => ⟨(RX11, TX11, 77), rfl, by decide, (bw 1260 (by decide +kernel) rfl), rfl, rfl, by decide +kernel⟩
theorem pX11_38 : ∀ z, xFf (Cf z) RX11 38 11 17 (.array .int) := fun z => ⟨(RX11, TX11, 77), rfl, by decide, (bw 1261 (by decide +kernel) rfl), rfl, rfl, by decide +kernel⟩
theorem pX11_41 : ∀ z, xFf (Cf z) RX11 41 11 18 (.array .int) := fun z => ⟨(RX11, TX11, 77), rfl, by decide, (bw 1262 (by decide +kernel) rfl), rfl, rfl, by decide +kernel⟩
theorem pX11_44 : ∀ z, xFf (Cf z) RX11 44 11 19 (.array .int) := fun z => ⟨(RX11, TX11, 77), rfl, by decide, (bw 1263 (by decide +kernel) rfl), rfl, rfl, by decide +kernel⟩
theorem pX11_47 : ∀ z, xFf (Cf z) RX11 47 11 20 (.array .int) := fun z => ⟨(RX11, TX11, 77), rfl, by decide, (bw 1264 (by decide +kernel) rfl), rfl, rfl, by decide +kernel⟩
theorem pX11_50 : ∀ z, xFf (Cf z) RX11 50 11 21 (.array .int) := fun z => ⟨(RX11, TX11, 77), rfl, by decide, (bw 1265 (by decide +kernel) rfl), rfl, rfl, by decide +kernel⟩
theorem pX11_53 : ∀ z, xFf (Cf z) RX11 53 11 22 (.array .int) := fun z => ⟨(RX11, TX11, 77), rfl, by decide, (bw 1266 (by decide +kernel) rfl), rfl, rfl, by decide +kernel⟩
theorem pX11_56 : ∀ z, xFf (Cf z) RX11 56 11 23 (.array .int) := fun z => ⟨(RX11, TX11, 77), rfl, by decide, (bw 1267 (by decide +kernel) rfl), rfl, rfl, by decide +kernel⟩
theorem pX11_59 : ∀ z, xFf (Cf z) RX11 59 11 24 (.array .int) := fun z => ⟨(RX11, TX11, 77), rfl, by decide, (bw 1268 (by decide +kernel) rfl), rfl, rfl, by decide +kernel⟩
theorem pX11_62 : ∀ z, xFf (Cf z) RX11 62 11 25 (.array .int) := fun z => ⟨(RX11, TX11, 77), rfl, by decide, (bw 1269 (by decide +kernel) rfl), rfl, rfl, by decide +kernel⟩
theorem pX11_65 : ∀ z, xFf (Cf z) RX11 65 11 26 (.array .int) := fun z => ⟨(RX11, TX11, 77), rfl, by decide, (bw 1270 (by decide +kernel) rfl), rfl, rfl, by decide +kernel⟩
theorem pX11_68 : ∀ z, xFf (Cf z) RX11 68 11 27 (.array .int) := fun z => ⟨(RX11, TX11, 77), rfl, by decide, (bw 1271 (by decide +kernel) rfl), rfl, rfl, by decide +kernel⟩
theorem pX11_71 : ∀ z, xFf (Cf z) RX11 71 11 28 (.array .int) := fun z => ⟨(RX11, TX11, 77), rfl, by decide, (bw 1272 (by decide +kernel) rfl), rfl, rfl, by decide +kernel⟩
theorem pX11_74 : ∀ z, xFf (Cf z) RX11 74 11 29 (.array .int) := fun z => ⟨(RX11, TX11, 77), rfl, by decide, (bw 1273 (by decide +kernel) rfl), rfl, rfl, by decide +kernel⟩
theorem pX11_77 : ∀ z, xFf (Cf z) RX11 77 11 30 (.array .int) := fun z => ⟨(RX11, TX11, 77), rfl, by decide, (bw 1274 (by decide +kernel) rfl), rfl, rfl, by decide +kernel⟩
theorem pX11_80 : ∀ z, xFf (Cf z) RX11 80 11 31 (.array .int) := fun z => ⟨(RX11, TX11, 77), rfl, by decide, (bw 1275 (by decide +kernel) rfl), rfl, rfl, by decide +kernel⟩
theorem pX11_83 : ∀ z, xFf (Cf z) RX11 83 11 32 (.array .int) := fun z => ⟨(RX11, TX11, 77), rfl, by decide, (bw 1276 (by decide +kernel) rfl), rfl, rfl, by decide +kernel⟩
theorem pX11_86 : ∀ z, xFf (Cf z) RX11 86 11 33 (.array .int) := fun z => ⟨(RX11, TX11, 77), rfl, by decide, (bw 1277 (by decide +kernel) rfl), rfl, rfl, by decide +kernel⟩
theorem pX11_89 : ∀ z, xFf (Cf z) RX11 89 11 34 (.array .int) := fun z => ⟨(RX11, TX11, 77), rfl, by decide, (bw 1278 (by decide +kernel) rfl), rfl, rfl, by decide +kernel⟩
theorem pX11_92 : ∀ z, xFf (Cf z) RX11 92 11 35 (.array .int) := fun z => ⟨(RX11, TX11, 77), rfl, by decide, (bw 1279 (by decide +kernel) rfl), rfl, rfl, by decide +kernel⟩
theorem pX11_95 : ∀ z, xFf (Cf z) RX11 95 11 36 (.array .int) := fun z => ⟨(RX11, TX11, 77), rfl, by decide, (bw 1280 (by decide +kernel) rfl), rfl, rfl, by decide +kernel⟩
theorem pX11_98 : ∀ z, xFf (Cf z) RX11 98 11 37 (.array .int) := fun z => ⟨(RX11, TX11, 77), rfl, by decide, (bw 1281 (by decide +kernel) rfl), rfl, rfl, by decide +kernel⟩
theorem pX11_101 : ∀ z, xFf (Cf z) RX11 101 11 38 (.array .int) := fun z => ⟨(RX11, TX11, 77), rfl, by decide, (bw 1282 (by decide +kernel) rfl), rfl, rfl, by decide +kernel⟩
theorem pX11_104 : ∀ z, xFf (Cf z) RX11 104 11 39 (.array .int) := fun z => ⟨(RX11, TX11, 77), rfl, by decide, (bw 1283 (by decide +kernel) rfl), rfl, rfl, by decide +kernel⟩
theorem pX11_107 : ∀ z, xFf (Cf z) RX11 107 11 40 (.array .int) := fun z => ⟨(RX11, TX11, 77), rfl, by decide, (bw 1284 (by decide +kernel) rfl), rfl, rfl, by decide +kernel⟩
theorem pX11_110 : ∀ z, xFf (Cf z) RX11 110 11 41 (.array .int) := fun z => ⟨(RX11, TX11, 77), rfl, by decide, (bw 1285 (by decide +kernel) rfl), rfl, rfl, by decide +kernel⟩
theorem pX11_113 : ∀ z, xFf (Cf z) RX11 113 11 42 (.array .int) := fun z => ⟨(RX11, TX11, 77), rfl, by decide, (bw 1286 (by decide +kernel) rfl), rfl, rfl, by decide +kernel⟩
theorem pX11_116 : ∀ z, xFf (Cf z) RX11 116 11 43 (.array .int) := fun z => ⟨(RX11, TX11, 77), rfl, by decide, (bw 1287 (by decide +kernel) rfl), rfl, rfl, by decide +kernel⟩
theorem pX11_119 : ∀ z, xFf (Cf z) RX11 119 11 44 (.array .int) := fun z => ⟨(RX11, TX11, 77), rfl, by decide, (bw 1288 (by decide +kernel) rfl), rfl, rfl, by decide +kernel⟩
theorem pX11_122 : ∀ z, xFf (Cf z) RX11 122 11 45 (.array .int) := fun z => ⟨(RX11, TX11, 77), rfl, by decide, (bw 1289 (by decide +kernel) rfl), rfl, rfl, by decide +kernel⟩
theorem pX11_125 : ∀ z, xFf (Cf z) RX11 125 11 46 (.array .int) := fun z => ⟨(RX11, TX11, 77), rfl, by decide, (bw 1290 (by decide +kernel) rfl), rfl, rfl, by decide +kernel⟩
theorem pX11_128 : ∀ z, xFf (Cf z) RX11 128 11 47 (.array .int) := fun z => ⟨(RX11, TX11, 77), rfl, by decide, (bw 1291 (by decide +kernel) rfl), rfl, rfl, by decide +kernel⟩
theorem pX11_131 : ∀ z, xFf (Cf z) RX11 131 11 48 (.array .long) := fun z => ⟨(RX11, TX11, 77), rfl, by decide, (bw 1292 (by decide +kernel) rfl), rfl, rfl, by decide +kernel⟩
theorem pX11_135 : ∀ z, xFf (Cf z) RX11 135 11 49 (.array .long) := fun z => ⟨(RX11, TX11, 77), rfl, by decide, (bw 1293 (by decide +kernel) rfl), rfl, rfl, by decide +kernel⟩
theorem pX11_138 : ∀ z, xFf (Cf z) RX11 138 11 57 (.array .int) := fun z => ⟨(RX11, TX11, 77), rfl, by decide, (bw 1301 (by decide +kernel) rfl), rfl, rfl, by decide +kernel⟩
theorem pX11_141 : ∀ z, xFf (Cf z) RX11 141 11 58 (.array .int) := fun z => ⟨(RX11, TX11, 77), rfl, by decide, (bw 1302 (by decide +kernel) rfl), rfl, rfl, by decide +kernel⟩
theorem pX11_144 : ∀ z, xFf (Cf z) RX11 144 11 59 (.array .int) := fun z => ⟨(RX11, TX11, 77), rfl, by decide, (bw 1303 (by decide +kernel) rfl), rfl, rfl, by decide +kernel⟩
theorem pX11_147 : ∀ z, xFf (Cf z) RX11 147 11 60 (.array .int) := fun z => ⟨(RX11, TX11, 77), rfl, by decide, (bw 1304 (by decide +kernel) rfl), rfl, rfl, by decide +kernel⟩
theorem pX11_150 : ∀ z, xFf (Cf z) RX11 150 11 61 (.array .int) := fun z => ⟨(RX11, TX11, 77), rfl, by decide, (bw 1305 (by decide +kernel) rfl), rfl, rfl, by decide +kernel⟩
theorem pX11_153 : ∀ z, xFf (Cf z) RX11 153 11 62 (.array .int) := fun z => ⟨(RX11, TX11, 77), rfl, by decide, (bw 1306 (by decide +kernel) rfl), rfl, rfl, by decide +kernel⟩
theorem pX11_156 : ∀ z, xFf (Cf z) RX11 156 11 63 (.array .int) := fun z => ⟨(RX11, TX11, 77), rfl, by decide, (bw 1307 (by decide +kernel) rfl), rfl, rfl, by decide +kernel⟩
theorem pX11_159 : ∀ z, xFf (Cf z) RX11 159 11 64 (.array .int) := fun z => ⟨(RX11, TX11, 77), rfl, by decide, (bw 1308 (by decide +kernel) rfl), rfl, rfl, by decide +kernel⟩
theorem pX11_162 : ∀ z, xFf (Cf z) RX11 162 11 65 (.array .int) := fun z => ⟨(RX11, TX11, 77), rfl, by decide, (bw 1309 (by decide +kernel) rfl), rfl, rfl, by decide +kernel⟩
theorem pX11_165 : ∀ z, xFp (Cf z) RX11 165 11 67 (.int) := fun z => ⟨(RX11, TX11, 77), rfl, by decide, (bw 1311 (by decide +kernel) rfl), rfl, by decide +kernel⟩
theorem pX11_168 : ∀ z, xFf (Cf z) RX11 168 11 76 (.array .int) := fun z => ⟨(RX11, TX11, 77), rfl, by decide, (bw 1320 (by decide +kernel) rfl), rfl, rfl, by decide +kernel⟩
theorem pX11_171 : ∀ z, xFp (Cf z) RX11 171 11 1 (.int) := fun z => ⟨(RX11, TX11, 77), rfl, by decide, (bw 1245 (by decide +kernel) rfl), rfl, by decide +kernel⟩
theorem pX11_174 : ∀ z, xFp (Cf z) RX11 174 11 2 (.int) := fun z => ⟨(RX11, TX11, 77), rfl, by decide, (bw 1246 (by decide +kernel) rfl), rfl, by decide +kernel⟩
theorem pX11_200 : ∀ z, xFp (Cf z) RX11 200 11 0 (.int) := fun z => ⟨(RX11, TX11, 77), rfl, by decide, (bw 1244 (by decide +kernel) rfl), rfl, by decide +kernel⟩
theorem pX11_203 : ∀ z, xFp (Cf z) RX11 203 11 51 (.int) := fun z => ⟨(RX11, TX11, 77), rfl, by decide, (bw 1295 (by decide +kernel) rfl), rfl, by decide +kernel⟩
theorem pX11_206 : ∀ z, xFp (Cf z) RX11 206 11 52 (.int) := fun z => ⟨(RX11, TX11, 77), rfl, by decide, (bw 1296 (by decide +kernel) rfl), rfl, by decide +kernel⟩
theorem pX11_209 : ∀ z, xFp (Cf z) RX11 209 11 50 (.int) := fun z => ⟨(RX11, TX11, 77), rfl, by decide, (bw 1294 (by decide +kernel) rfl), rfl, by decide +kernel⟩
theorem pX11_212 : ∀ z, xFp (Cf z) RX11 212 11 55 (.int) := fun z => ⟨(RX11, TX11, 77), rfl, by decide, (bw 1299 (by decide +kernel) rfl), rfl, by decide +kernel⟩
theorem pX11_222 : ∀ z, xFp (Cf z) RX11 222 11 54 (.int) := fun z => ⟨(RX11, TX11, 77), rfl, by decide, (bw 1298 (by decide +kernel) rfl), rfl, by decide +kernel⟩
theorem pX11_225 : ∀ z, xFp (Cf z) RX11 225 11 53 (.int) := fun z => ⟨(RX11, TX11, 77), rfl, by decide, (bw 1297 (by decide +kernel) rfl), rfl, by decide +kernel⟩
theorem pX11_238 : ∀ z, xFp (Cf z) RX11 238 11 56 (.int) := fun z => ⟨(RX11, TX11, 77), rfl, by decide, (bw 1300 (by decide +kernel) rfl), rfl, by decide +kernel⟩
theorem pX11_257 : ∀ z, xFp (Cf z) RX11 257 11 6 (.int) := fun z => ⟨(RX11, TX11, 77), rfl, by decide, (bw 1250 (by decide +kernel) rfl), rfl, by decide +kernel⟩
theorem pX11_303 : ∀ z, xFp (Cf z) RX11 303 11 3 (.int) := fun z => ⟨(RX11, TX11, 77), rfl, by decide, (bw 1247 (by decide +kernel) rfl), rfl, by decide +kernel⟩
theorem pX11_306 : ∀ z, xFp (Cf z) RX11 306 11 9 (.int) := fun z => ⟨(RX11, TX11, 77), rfl, by decide, (bw 1253 (by decide +kernel) rfl), rfl, by decide +kernel⟩
theorem pX11_316 : ∀ z, xFp (Cf z) RX11 316 11 4 (.int) := fun z => ⟨(RX11, TX11, 77), rfl, by decide, (bw 1248 (by decide +kernel) rfl), rfl, by decide +kernel⟩
theorem pX11_319 : ∀ z, xFp (Cf z) RX11 319 11 5 (.int) := fun z => ⟨(RX11, TX11, 77), rfl, by decide, (bw 1249 (by decide +kernel) rfl), rfl, by decide +kernel⟩
theorem pX11_351 : ∀ z, xFp (Cf z) RX11 351 11 66 (.int) := fun z => ⟨(RX11, TX11, 77), rfl, by decide, (bw 1310 (by decide +kernel) rfl), rfl, by decide +kernel⟩
theorem pX11_371 : ∀ z, xFp (Cf z) RX11 371 11 68 (.int) := fun z => ⟨(RX11, TX11, 77), rfl, by decide, (bw 1312 (by decide +kernel) rfl), rfl, by decide +kernel⟩
theorem pX11_374 : ∀ z, xFp (Cf z) RX11 374 11 69 (.int) := fun z => ⟨(RX11, TX11, 77), rfl, by decide, (bw 1313 (by decide +kernel) rfl), rfl, by decide +kernel⟩
theorem pX11_377 : ∀ z, xFp (Cf z) RX11 377 11 70 (.int) := fun z => ⟨(RX11, TX11, 77), rfl, by decide, (bw 1314 (by decide +kernel) rfl), rfl, by decide +kernel⟩
theorem pX11_380 : ∀ z, xFp (Cf z) RX11 380 11 71 (.int) := fun z => ⟨(RX11, TX11, 77), rfl, by decide, (bw 1315 (by decide +kernel) rfl), rfl, by decide +kernel⟩
theorem pX11_383 : ∀ z, xFp (Cf z) RX11 383 11 72 (.int) := fun z => ⟨(RX11, TX11, 77), rfl, by decide, (bw 1316 (by decide +kernel) rfl), rfl, by decide +kernel⟩
theorem pX11_386 : ∀ z, xFp (Cf z) RX11 386 11 73 (.int) := fun z => ⟨(RX11, TX11, 77), rfl, by decide, (bw 1317 (by decide +kernel) rfl), rfl, by decide +kernel⟩
theorem pX11_389 : ∀ z, xFp (Cf z) RX11 389 11 74 (.int) := fun z => ⟨(RX11, TX11, 77), rfl, by decide, (bw 1318 (by decide +kernel) rfl), rfl, by decide +kernel⟩
theorem pX11_392 : ∀ z, xFp (Cf z) RX11 392 11 75 (.int) := fun z => ⟨(RX11, TX11, 77), rfl, by decide, (bw 1319 (by decide +kernel) rfl), rfl, by decide +kernel⟩
theorem kJ6_265 : ∀ z, Cond.constant RJ6 265 1431655765 ∈ (Cf z).1 := fun z => (bw 1122 (by decide +kernel) rfl)
theorem kJ6_266 : ∀ z, Cond.constant RJ6 266 858993459 ∈ (Cf z).1 := fun z => (bw 1123 (by decide +kernel) rfl)
theorem kJ6_267 : ∀ z, Cond.constant RJ6 267 252645135 ∈ (Cf z).1 := fun z => (bw 1124 (by decide +kernel) rfl)
theorem fJ0_9 : ∀ z, Cond.fieldLink RJ0 9 "java/lang/String" "value" "[B" ∈ (Cf z).1 := fun z => (bw 1860 (by decide +kernel) rfl)
theorem fJ0_15 : ∀ z, Cond.fieldLink RJ0 15 "java/lang/String" "coder" "B" ∈ (Cf z).1 := fun z => (bw 1859 (by decide +kernel) rfl)
theorem sJ0_38 : ∀ z, Cond.fieldLink RJ0 38 "java/lang/String" "COMPACT_STRINGS" "Z" ∈ (Cf z).1 := fun z => (bw 721 (by decide +kernel) rfl)
theorem sJ0_1053 : ∀ z, Cond.fieldLink RJ0 1053 "jdk/internal/util/Preconditions" "SIOOBE_FORMATTER" "Ljava/util/function/BiFunction;" ∈ (Cf z).1 := fun z => (bw 729 (by decide +kernel) rfl)
theorem cmJ1_charAt_3b067 : ∀ z, xCm (Cf z) MJ1_charAt_3b067 2 := fun z => ⟨(bw 95 (by decide +kernel) rfl), (bw 725 (by decide +kernel) rfl), by decide +kernel, by decide, by decide +kernel⟩
theorem gJ0_495 : ∀ z, xCs (Cf z) RJ0 495 MJ1_charAt_3b067 2 ∨ ∃ h, xCsN (Cf z) RJ0 495 MJ1_charAt_3b067 2 h := fun z => Or.inl ⟨cmJ1_charAt_3b067 z, (bw 723 (by decide +kernel) rfl), (bw 724 (by decide +kernel) rfl)⟩
theorem cmJ2_charAt_3b067 : ∀ z, xCm (Cf z) MJ2_charAt_3b067 2 := fun z => ⟨(bw 97 (by decide +kernel) rfl), (bw 736 (by decide +kernel) rfl), by decide +kernel, by decide, by decide +kernel⟩
theorem gJ0_498 : ∀ z, xCs (Cf z) RJ0 498 MJ2_charAt_3b067 2 ∨ ∃ h, xCsN (Cf z) RJ0 498 MJ2_charAt_3b067 2 h := fun z => Or.inl ⟨cmJ2_charAt_3b067 z, (bw 734 (by decide +kernel) rfl), (bw 735 (by decide +kernel) rfl)⟩
theorem cmJ3_checkIndex_8e157 : ∀ z, xCm (Cf z) MJ3_checkIndex_8e157 3 := fun z => ⟨(bw 96 (by decide +kernel) rfl), (bw 733 (by decide +kernel) rfl), by decide +kernel, by decide, by decide +kernel⟩
theorem gJ0_1059 : ∀ z, xCs (Cf z) RJ0 1059 MJ3_checkIndex_8e157 3 ∨ ∃ h, xCsN (Cf z) RJ0 1059 MJ3_checkIndex_8e157 3 h := fun z => Or.inl ⟨cmJ3_checkIndex_8e157 z, (bw 731 (by decide +kernel) rfl), (bw 732 (by decide +kernel) rfl)⟩
theorem cmJ0_coder_7d493 : ∀ z, xCm (Cf z) MJ0_coder_7d493 0 := fun z => ⟨(bw 94 (by decide +kernel) rfl), (bw 772 (by decide +kernel) rfl), by decide +kernel, by decide, by decide +kernel⟩
theorem gJ0_335 : ∀ z, xCv (Cf z) RJ0 335 MJ0_coder_7d493 0 := fun z => ⟨cmJ0_coder_7d493 z, (bw 769 (by decide +kernel) rfl), (bw 770 (by decide +kernel) rfl), (bw 771 (by decide +kernel) rfl)⟩
theorem cmJ0_isLatin1_aae02 : ∀ z, xCm (Cf z) MJ0_isLatin1_aae02 0 := fun z => ⟨(bw 94 (by decide +kernel) rfl), (bw 720 (by decide +kernel) rfl), by decide +kernel, by decide, by decide +kernel⟩
theorem gJ0_492 : ∀ z, xCv (Cf z) RJ0 492 MJ0_isLatin1_aae02 0 := fun z => ⟨cmJ0_isLatin1_aae02 z, (bw 717 (by decide +kernel) rfl), (bw 718 (by decide +kernel) rfl), (bw 719 (by decide +kernel) rfl)⟩
theorem cmJ0_checkIndex_df160 : ∀ z, xCm (Cf z) MJ0_checkIndex_df160 2 := fun z => ⟨(bw 94 (by decide +kernel) rfl), (bw 728 (by decide +kernel) rfl), by decide +kernel, by decide, by decide +kernel⟩
theorem gJ1_9 : ∀ z, xCs (Cf z) RJ1 9 MJ0_checkIndex_df160 2 ∨ ∃ h, xCsN (Cf z) RJ1 9 MJ0_checkIndex_df160 2 h := fun z => Or.inl ⟨cmJ0_checkIndex_df160 z, (bw 726 (by decide +kernel) rfl), (bw 727 (by decide +kernel) rfl)⟩
theorem sJ2_44 : ∀ z, Cond.fieldLink RJ2 44 "java/lang/StringUTF16" "$assertionsDisabled" "Z" ∈ (Cf z).1 := fun z => (bw 747 (by decide +kernel) rfl)
theorem sJ2_59 : ∀ z, Cond.fieldLink RJ2 59 "java/lang/StringUTF16" "HI_BYTE_SHIFT" "I" ∈ (Cf z).1 := fun z => (bw 749 (by decide +kernel) rfl)
theorem sJ2_63 : ∀ z, Cond.fieldLink RJ2 63 "java/lang/StringUTF16" "LO_BYTE_SHIFT" "I" ∈ (Cf z).1 := fun z => (bw 751 (by decide +kernel) rfl)
theorem cmJ2_length_9d52b : ∀ z, xCm (Cf z) MJ2_length_9d52b 1 := fun z => ⟨(bw 97 (by decide +kernel) rfl), (bw 742 (by decide +kernel) rfl), by decide +kernel, by decide, by decide +kernel⟩
theorem gJ2_48 : ∀ z, xCs (Cf z) RJ2 48 MJ2_length_9d52b 1 ∨ ∃ h, xCsN (Cf z) RJ2 48 MJ2_length_9d52b 1 h := fun z => Or.inl ⟨cmJ2_length_9d52b z, (bw 740 (by decide +kernel) rfl), (bw 741 (by decide +kernel) rfl)⟩
theorem cmJ2_checkIndex_2214a : ∀ z, xCm (Cf z) MJ2_checkIndex_2214a 2 := fun z => ⟨(bw 97 (by decide +kernel) rfl), (bw 739 (by decide +kernel) rfl), by decide +kernel, by decide, by decide +kernel⟩
theorem gJ2_67 : ∀ z, xCs (Cf z) RJ2 67 MJ2_checkIndex_2214a 2 ∨ ∃ h, xCsN (Cf z) RJ2 67 MJ2_checkIndex_2214a 2 h := fun z => Or.inl ⟨cmJ2_checkIndex_2214a z, (bw 737 (by decide +kernel) rfl), (bw 738 (by decide +kernel) rfl)⟩
theorem cmJ2_getChar_3b067 : ∀ z, xCm (Cf z) MJ2_getChar_3b067 2 := fun z => ⟨(bw 97 (by decide +kernel) rfl), (bw 746 (by decide +kernel) rfl), by decide +kernel, by decide, by decide +kernel⟩
theorem gJ2_71 : ∀ z, xCs (Cf z) RJ2 71 MJ2_getChar_3b067 2 ∨ ∃ h, xCsN (Cf z) RJ2 71 MJ2_getChar_3b067 2 h := fun z => Or.inl ⟨cmJ2_getChar_3b067 z, (bw 744 (by decide +kernel) rfl), (bw 745 (by decide +kernel) rfl)⟩
theorem gJ2_414 : ∀ z, xCs (Cf z) RJ2 414 MJ0_checkIndex_df160 2 ∨ ∃ h, xCsN (Cf z) RJ2 414 MJ0_checkIndex_df160 2 h := fun z => Or.inl ⟨cmJ0_checkIndex_df160 z, (bw 743 (by decide +kernel) rfl), (bw 727 (by decide +kernel) rfl)⟩
theorem objw : ∀ z, Cond.instanceMethod objectInit ∈ (Cf z).1 ∧ Cond.code objectInit ⟨#[0xb1]⟩ 1 none ∈ (Cf z).1 := fun z => ⟨(bw 105 (by decide +kernel) rfl), bw 106 (by decide +kernel) rfl⟩
theorem ac_int : ∀ z, Cond.arrayClass .int ∈ (Cf z).1 := fun z => (bw 162 (by decide +kernel) rfl)
theorem ac_long : ∀ z, Cond.arrayClass .long ∈ (Cf z).1 := fun z => (bw 372 (by decide +kernel) rfl)
