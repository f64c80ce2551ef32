/-! what is given and never written, by a parameter z: array classes, addresses of what is only read, the script, a formatter, the addresses of all cells by kind and place -/
abbrev xZ : Type := (Nat → ClassId) × (Nat → Nat) × Nat × (Nat → Int32) × Value × (Nat → Nat → Nat)
def BW : List Cond := lw_tbl.filter goodWord
def NW : List Cond := lw_tbl.filter xNk
theorem bw {w : Cond} (i : Nat) (h : lw_tbl[i]? = some w) (hg : goodWord w = true) : w ∈ BW := List.mem_filter.mpr ⟨List.mem_of_getElem? h, hg⟩
theorem nw {w : Cond} (i : Nat) (h : lw_tbl[i]? = some w) (hg : xNk w = true) : w ∈ NW := List.mem_filter.mpr ⟨List.mem_of_getElem? h, hg⟩
def xtx : List (Nat × String) := [(119, "loss "), (121, "gain "), (123, "right "), (125, "wrong "), (127, "span "), (129, "paper "), (131, "ff "), (133, "n "), (135, " from "), (137, " to "), (139, " each ")]
def xby : List (List Int32) := [[108, 111, 115, 115, 32], [103, 97, 105, 110, 32], [114, 105, 103, 104, 116, 32], [119, 114, 111, 110, 103, 32], [115, 112, 97, 110, 32], [112, 97, 112, 101, 114, 32], [102, 102, 32], [110, 32], [32, 102, 114, 111, 109, 32], [32, 116, 111, 32], [32, 101, 97, 99, 104, 32]]
def xFL : List Int32 := [5, 10, 4, 1, 2, 0]
def xLL : List Int32 := [0, 0, 1, 1, 0, 0]
def xML : List Int32 := [99, 99, 9, 9, 99, 239]
def xro (z : xZ) : xRO :=
  ([(z.2.1 0, .int, z.2.2.1, z.2.2.2.1), (z.2.1 1, .int, 6, fun j => xFL.getD j 0), (z.2.1 2, .int, 6, fun j => xLL.getD j 0), (z.2.1 3, .int, 6, fun j => xML.getD j 0)] ++ (List.range 11).map (fun i => (z.2.1 (20 + i), .byte, (xby.getD i []).length, fun j => (xby.getD i []).getD j 0)),
   (List.range 11).map (fun i => (z.2.1 (5 + i), "java/lang/String")),
   (List.range 11).map (fun i => (z.2.1 (5 + i), "java/lang/String", "coder", "B", .int 0)) ++ (List.range 11).map (fun i => (z.2.1 (5 + i), "java/lang/String", "value", "[B", .ref (z.2.1 (20 + i)))),
   [("HumUnheard", "FIRST_LAWS", "[I", .ref (z.2.1 1)), ("HumUnheard", "LEAST_LAWS", "[I", .ref (z.2.1 2)), ("HumUnheard", "MOST_LAWS", "[I", .ref (z.2.1 3)), ("java/lang/String", "COMPACT_STRINGS", "Z", .int 1), ("jdk/internal/util/Preconditions", "SIOOBE_FORMATTER", "Ljava/util/function/BiFunction;", z.2.2.2.2.1)],
   (List.range 11).map (fun i => ("HumUnheard$Reader", (xtx.getD i (0, "")).1, (xtx.getD i (0, "")).2, z.2.1 (5 + i))))
def xtys (z : xZ) : List (ClassId × FieldType) := [(z.1 0, .int), (z.1 1, .long), (z.1 2, .object "HumUnheard$Shelf"), (z.1 3, .object "HumUnheard$Person"), (z.1 4, .object "HumUnheard$Source"), (z.1 5, .object "HumUnheard$Plan")]
def Cf (z : xZ) : xCf := (BW, NW, xcl, xtys z, xro z)
set_option maxRecDepth 100000 in
theorem inX0 : ∀ w ∈ u_ws RX0 TX0 5, w ∈ BW := fun w h => List.mem_filter.mpr ⟨(show ∀ w ∈ u_ws RX0 TX0 5, w ∈ lw_tbl by decide +kernel) w h, (show ∀ w ∈ u_ws RX0 TX0 5, goodWord w = true by decide +kernel) w h⟩
set_option maxRecDepth 100000 in
theorem inX1 : ∀ w ∈ u_ws RX1 TX1 7, w ∈ BW := fun w h => List.mem_filter.mpr ⟨(show ∀ w ∈ u_ws RX1 TX1 7, w ∈ lw_tbl by decide +kernel) w h, (show ∀ w ∈ u_ws RX1 TX1 7, goodWord w = true by decide +kernel) w h⟩
set_option maxRecDepth 100000 in
theorem inX2 : ∀ w ∈ u_ws RX2 TX2 4, w ∈ BW := fun w h => List.mem_filter.mpr ⟨(show ∀ w ∈ u_ws RX2 TX2 4, w ∈ lw_tbl by decide +kernel) w h, (show ∀ w ∈ u_ws RX2 TX2 4, goodWord w = true by decide +kernel) w h⟩
set_option maxRecDepth 100000 in
theorem inX3 : ∀ w ∈ u_ws RX3 TX3 5, w ∈ BW := fun w h => List.mem_filter.mpr ⟨(show ∀ w ∈ u_ws RX3 TX3 5, w ∈ lw_tbl by decide +kernel) w h, (show ∀ w ∈ u_ws RX3 TX3 5, goodWord w = true by decide +kernel) w h⟩
set_option maxRecDepth 100000 in
theorem inX4 : ∀ w ∈ u_ws RX4 TX4 6, w ∈ BW := fun w h => List.mem_filter.mpr ⟨(show ∀ w ∈ u_ws RX4 TX4 6, w ∈ lw_tbl by decide +kernel) w h, (show ∀ w ∈ u_ws RX4 TX4 6, goodWord w = true by decide +kernel) w h⟩
set_option maxRecDepth 100000 in
theorem inX5 : ∀ w ∈ u_ws RX5 TX5 8, w ∈ BW := fun w h => List.mem_filter.mpr ⟨(show ∀ w ∈ u_ws RX5 TX5 8, w ∈ lw_tbl by decide +kernel) w h, (show ∀ w ∈ u_ws RX5 TX5 8, goodWord w = true by decide +kernel) w h⟩
set_option maxRecDepth 100000 in
theorem inX6 : ∀ w ∈ u_ws RX6 TX6 8, w ∈ BW := fun w h => List.mem_filter.mpr ⟨(show ∀ w ∈ u_ws RX6 TX6 8, w ∈ lw_tbl by decide +kernel) w h, (show ∀ w ∈ u_ws RX6 TX6 8, goodWord w = true by decide +kernel) w h⟩
set_option maxRecDepth 100000 in
theorem inX7 : ∀ w ∈ u_ws RX7 TX7 3, w ∈ BW := fun w h => List.mem_filter.mpr ⟨(show ∀ w ∈ u_ws RX7 TX7 3, w ∈ lw_tbl by decide +kernel) w h, (show ∀ w ∈ u_ws RX7 TX7 3, goodWord w = true by decide +kernel) w h⟩
set_option maxRecDepth 100000 in
theorem inX8 : ∀ w ∈ u_ws RX8 TX8 8, w ∈ BW := fun w h => List.mem_filter.mpr ⟨(show ∀ w ∈ u_ws RX8 TX8 8, w ∈ lw_tbl by decide +kernel) w h, (show ∀ w ∈ u_ws RX8 TX8 8, goodWord w = true by decide +kernel) w h⟩
set_option maxRecDepth 100000 in
theorem inX9 : ∀ w ∈ u_ws RX9 TX9 14, w ∈ BW := fun w h => List.mem_filter.mpr ⟨(show ∀ w ∈ u_ws RX9 TX9 14, w ∈ lw_tbl by decide +kernel) w h, (show ∀ w ∈ u_ws RX9 TX9 14, goodWord w = true by decide +kernel) w h⟩
set_option maxRecDepth 100000 in
theorem inX10 : ∀ w ∈ u_ws RX10 TX10 8, w ∈ BW := fun w h => List.mem_filter.mpr ⟨(show ∀ w ∈ u_ws RX10 TX10 8, w ∈ lw_tbl by decide +kernel) w h, (show ∀ w ∈ u_ws RX10 TX10 8, goodWord w = true by decide +kernel) w h⟩
set_option maxRecDepth 100000 in
theorem inX11 : ∀ w ∈ u_ws RX11 TX11 77, w ∈ BW := fun w h => List.mem_filter.mpr ⟨(show ∀ w ∈ u_ws RX11 TX11 77, w ∈ lw_tbl by decide +kernel) w h, (show ∀ w ∈ u_ws RX11 TX11 77, goodWord w = true by decide +kernel) w h⟩
theorem xCf_ok (z : xZ) : xOK (Cf z) := by
  refine ⟨fun w hw => good_of_word (List.mem_filter.mp hw).2, fun w hw => (List.mem_filter.mp hw).2, fun ci q hq => ?_⟩
  match ci, hq with
  | 0, hq => cases hq; exact ⟨inX0, ⟨tyX0, tyX0_ok⟩, nmX0⟩
  | 1, hq => cases hq; exact ⟨inX1, ⟨tyX1, tyX1_ok⟩, nmX1⟩
  | 2, hq => cases hq; exact ⟨inX2, ⟨tyX2, tyX2_ok⟩, nmX2⟩
  | 3, hq => cases hq; exact ⟨inX3, ⟨tyX3, tyX3_ok⟩, nmX3⟩
  | 4, hq => cases hq; exact ⟨inX4, ⟨tyX4, tyX4_ok⟩, nmX4⟩
  | 5, hq => cases hq; exact ⟨inX5, ⟨tyX5, tyX5_ok⟩, nmX5⟩
  | 6, hq => cases hq; exact ⟨inX6, ⟨tyX6, tyX6_ok⟩, nmX6⟩
  | 7, hq => cases hq; exact ⟨inX7, ⟨tyX7, tyX7_ok⟩, nmX7⟩
  | 8, hq => cases hq; exact ⟨inX8, ⟨tyX8, tyX8_ok⟩, nmX8⟩
  | 9, hq => cases hq; exact ⟨inX9, ⟨tyX9, tyX9_ok⟩, nmX9⟩
  | 10, hq => cases hq; exact ⟨inX10, ⟨tyX10, tyX10_ok⟩, nmX10⟩
  | 11, hq => cases hq; exact ⟨inX11, ⟨tyX11, tyX11_ok⟩, nmX11⟩
  | n + 12, hq => simp [Cf, xcl] at hq
