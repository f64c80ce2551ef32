/-! ===== the law's own frame, from the loop on: what is in use stays as it is ===== -/
theorem sb_new {s t : State} {locs : List Loc} {k n : Nat} (h : s.sameButNew t locs k n) (hl : ∀ l ∈ locs, s.heap.size ≤ l.base) : s.sameButNew t [] k n := by
  obtain ⟨h1, h2, h3, h4, h5, h6⟩ := h
  refine ⟨h1, h2, h3, h4, h5, fun a c hc => ?_⟩
  obtain ⟨c2, e1, e2, e3, e4⟩ := h6 a c hc
  refine ⟨c2, e1, e2, e3, fun i _ => e4 i (fun hm => ?_)⟩
  have q1 := hl _ hm
  have q2 := (Array.getElem?_eq_some_iff.mp hc).1
  have q3 : s.heap.size ≤ a := q1
  omega
theorem zc_stk {cf : xCf} {M : xMI} {mc ms : Nat} {P : xP} {B : Nat × Nat} (r : xR_stk cf M mc ms P) : xR_stk cf M 0 0 (fun pc lo st μ _ => P pc lo st μ B) := fun pc lo st st2 μ b i n h0 h1 h2 => r pc lo st st2 μ B i n h0 h1 h2
theorem zc_div {cf : xCf} {M : xMI} {mc ms : Nat} {P : xP} {B : Nat × Nat} (r : xR_div cf M mc ms P) : xR_div cf M 0 0 (fun pc lo st μ _ => P pc lo st μ B) := fun pc lo x y st μ b h0 h1 h2 => r pc lo x y st μ B h0 h1 h2
theorem zc_rem {cf : xCf} {M : xMI} {mc ms : Nat} {P : xP} {B : Nat × Nat} (r : xR_rem cf M mc ms P) : xR_rem cf M 0 0 (fun pc lo st μ _ => P pc lo st μ B) := fun pc lo x y st μ b h0 h1 h2 => r pc lo x y st μ B h0 h1 h2
theorem zc_ldiv {cf : xCf} {M : xMI} {mc ms : Nat} {P : xP} {B : Nat × Nat} (r : xR_ldiv cf M mc ms P) : xR_ldiv cf M 0 0 (fun pc lo st μ _ => P pc lo st μ B) := fun pc lo x y st μ b h0 h1 h2 => r pc lo x y st μ B h0 h1 h2
theorem zc_ldc {cf : xCf} {M : xMI} {mc ms : Nat} {P : xP} {B : Nat × Nat} (r : xR_ldc cf M mc ms P) : xR_ldc cf M 0 0 (fun pc lo st μ _ => P pc lo st μ B) := fun pc lo st μ b i v h0 h1 h2 => r pc lo st μ B i v h0 h1 h2
theorem zc_ldcw {cf : xCf} {M : xMI} {mc ms : Nat} {P : xP} {B : Nat × Nat} (r : xR_ldcw cf M mc ms P) : xR_ldcw cf M 0 0 (fun pc lo st μ _ => P pc lo st μ B) := fun pc lo st μ b i v h0 h1 h2 => r pc lo st μ B i v h0 h1 h2
theorem zc_ldc2 {cf : xCf} {M : xMI} {mc ms : Nat} {P : xP} {B : Nat × Nat} (r : xR_ldc2 cf M mc ms P) : xR_ldc2 cf M 0 0 (fun pc lo st μ _ => P pc lo st μ B) := fun pc lo st μ b i v h0 h1 h2 => r pc lo st μ B i v h0 h1 h2
theorem zc_ldcs {cf : xCf} {M : xMI} {mc ms : Nat} {P : xP} {B : Nat × Nat} (r : xR_ldcs cf M mc ms P) : xR_ldcs cf M 0 0 (fun pc lo st μ _ => P pc lo st μ B) := fun pc lo st μ b i tx a h0 h1 h2 => r pc lo st μ B i tx a h0 h1 h2
theorem zc_iloadN {cf : xCf} {M : xMI} {mc ms : Nat} {P : xP} {B : Nat × Nat} (r : xR_iloadN cf M mc ms P) : xR_iloadN cf M 0 0 (fun pc lo st μ _ => P pc lo st μ B) := fun pc lo st μ b i x h0 h1 h2 => r pc lo st μ B i x h0 h1 h2
theorem zc_iload {cf : xCf} {M : xMI} {mc ms : Nat} {P : xP} {B : Nat × Nat} (r : xR_iload cf M mc ms P) : xR_iload cf M 0 0 (fun pc lo st μ _ => P pc lo st μ B) := fun pc lo st μ b i x h0 h1 h2 => r pc lo st μ B i x h0 h1 h2
theorem zc_lloadN {cf : xCf} {M : xMI} {mc ms : Nat} {P : xP} {B : Nat × Nat} (r : xR_lloadN cf M mc ms P) : xR_lloadN cf M 0 0 (fun pc lo st μ _ => P pc lo st μ B) := fun pc lo st μ b i x h0 h1 h2 => r pc lo st μ B i x h0 h1 h2
theorem zc_lload {cf : xCf} {M : xMI} {mc ms : Nat} {P : xP} {B : Nat × Nat} (r : xR_lload cf M mc ms P) : xR_lload cf M 0 0 (fun pc lo st μ _ => P pc lo st μ B) := fun pc lo st μ b i x h0 h1 h2 => r pc lo st μ B i x h0 h1 h2
theorem zc_aloadN {cf : xCf} {M : xMI} {mc ms : Nat} {P : xP} {B : Nat × Nat} (r : xR_aloadN cf M mc ms P) : xR_aloadN cf M 0 0 (fun pc lo st μ _ => P pc lo st μ B) := fun pc lo st μ b i x h0 h1 h2 => r pc lo st μ B i x h0 h1 h2
theorem zc_aload {cf : xCf} {M : xMI} {mc ms : Nat} {P : xP} {B : Nat × Nat} (r : xR_aload cf M mc ms P) : xR_aload cf M 0 0 (fun pc lo st μ _ => P pc lo st μ B) := fun pc lo st μ b i x h0 h1 h2 => r pc lo st μ B i x h0 h1 h2
theorem zc_istoreN {cf : xCf} {M : xMI} {mc ms : Nat} {P : xP} {B : Nat × Nat} (r : xR_istoreN cf M mc ms P) : xR_istoreN cf M 0 0 (fun pc lo st μ _ => P pc lo st μ B) := fun pc lo st μ b i x h0 h1 h2 => r pc lo st μ B i x h0 h1 h2
theorem zc_istore {cf : xCf} {M : xMI} {mc ms : Nat} {P : xP} {B : Nat × Nat} (r : xR_istore cf M mc ms P) : xR_istore cf M 0 0 (fun pc lo st μ _ => P pc lo st μ B) := fun pc lo st μ b i x h0 h1 h2 => r pc lo st μ B i x h0 h1 h2
theorem zc_astoreN {cf : xCf} {M : xMI} {mc ms : Nat} {P : xP} {B : Nat × Nat} (r : xR_astoreN cf M mc ms P) : xR_astoreN cf M 0 0 (fun pc lo st μ _ => P pc lo st μ B) := fun pc lo st μ b i x h0 h1 h2 => r pc lo st μ B i x h0 h1 h2
theorem zc_astore {cf : xCf} {M : xMI} {mc ms : Nat} {P : xP} {B : Nat × Nat} (r : xR_astore cf M mc ms P) : xR_astore cf M 0 0 (fun pc lo st μ _ => P pc lo st μ B) := fun pc lo st μ b i x h0 h1 h2 => r pc lo st μ B i x h0 h1 h2
theorem zc_lstoreN {cf : xCf} {M : xMI} {mc ms : Nat} {P : xP} {B : Nat × Nat} (r : xR_lstoreN cf M mc ms P) : xR_lstoreN cf M 0 0 (fun pc lo st μ _ => P pc lo st μ B) := fun pc lo st μ b i x h0 h1 h2 => r pc lo st μ B i x h0 h1 h2
theorem zc_lstore {cf : xCf} {M : xMI} {mc ms : Nat} {P : xP} {B : Nat × Nat} (r : xR_lstore cf M mc ms P) : xR_lstore cf M 0 0 (fun pc lo st μ _ => P pc lo st μ B) := fun pc lo st μ b i x h0 h1 h2 => r pc lo st μ B i x h0 h1 h2
theorem zc_iinc {cf : xCf} {M : xMI} {mc ms : Nat} {P : xP} {B : Nat × Nat} (r : xR_iinc cf M mc ms P) : xR_iinc cf M 0 0 (fun pc lo st μ _ => P pc lo st μ B) := fun pc lo st μ b i n x h0 h1 h2 h3 => r pc lo st μ B i n x h0 h1 h2 h3
theorem zc_ifeq {cf : xCf} {M : xMI} {mc ms : Nat} {P : xP} {B : Nat × Nat} (r : xR_ifeq cf M mc ms P) : xR_ifeq cf M 0 0 (fun pc lo st μ _ => P pc lo st μ B) := fun pc lo st μ b x off tgt h0 h1 h2 h3 => r pc lo st μ B x off tgt h0 h1 h2 h3
theorem zc_iceq {cf : xCf} {M : xMI} {mc ms : Nat} {P : xP} {B : Nat × Nat} (r : xR_iceq cf M mc ms P) : xR_iceq cf M 0 0 (fun pc lo st μ _ => P pc lo st μ B) := fun pc lo st μ b x y off tgt h0 h1 h2 h3 => r pc lo st μ B x y off tgt h0 h1 h2 h3
theorem zc_ifne {cf : xCf} {M : xMI} {mc ms : Nat} {P : xP} {B : Nat × Nat} (r : xR_ifne cf M mc ms P) : xR_ifne cf M 0 0 (fun pc lo st μ _ => P pc lo st μ B) := fun pc lo st μ b x off tgt h0 h1 h2 h3 => r pc lo st μ B x off tgt h0 h1 h2 h3
theorem zc_icne {cf : xCf} {M : xMI} {mc ms : Nat} {P : xP} {B : Nat × Nat} (r : xR_icne cf M mc ms P) : xR_icne cf M 0 0 (fun pc lo st μ _ => P pc lo st μ B) := fun pc lo st μ b x y off tgt h0 h1 h2 h3 => r pc lo st μ B x y off tgt h0 h1 h2 h3
theorem zc_iflt {cf : xCf} {M : xMI} {mc ms : Nat} {P : xP} {B : Nat × Nat} (r : xR_iflt cf M mc ms P) : xR_iflt cf M 0 0 (fun pc lo st μ _ => P pc lo st μ B) := fun pc lo st μ b x off tgt h0 h1 h2 h3 => r pc lo st μ B x off tgt h0 h1 h2 h3
theorem zc_iclt {cf : xCf} {M : xMI} {mc ms : Nat} {P : xP} {B : Nat × Nat} (r : xR_iclt cf M mc ms P) : xR_iclt cf M 0 0 (fun pc lo st μ _ => P pc lo st μ B) := fun pc lo st μ b x y off tgt h0 h1 h2 h3 => r pc lo st μ B x y off tgt h0 h1 h2 h3
theorem zc_ifge {cf : xCf} {M : xMI} {mc ms : Nat} {P : xP} {B : Nat × Nat} (r : xR_ifge cf M mc ms P) : xR_ifge cf M 0 0 (fun pc lo st μ _ => P pc lo st μ B) := fun pc lo st μ b x off tgt h0 h1 h2 h3 => r pc lo st μ B x off tgt h0 h1 h2 h3
theorem zc_icge {cf : xCf} {M : xMI} {mc ms : Nat} {P : xP} {B : Nat × Nat} (r : xR_icge cf M mc ms P) : xR_icge cf M 0 0 (fun pc lo st μ _ => P pc lo st μ B) := fun pc lo st μ b x y off tgt h0 h1 h2 h3 => r pc lo st μ B x y off tgt h0 h1 h2 h3
theorem zc_ifgt {cf : xCf} {M : xMI} {mc ms : Nat} {P : xP} {B : Nat × Nat} (r : xR_ifgt cf M mc ms P) : xR_ifgt cf M 0 0 (fun pc lo st μ _ => P pc lo st μ B) := fun pc lo st μ b x off tgt h0 h1 h2 h3 => r pc lo st μ B x off tgt h0 h1 h2 h3
theorem zc_icgt {cf : xCf} {M : xMI} {mc ms : Nat} {P : xP} {B : Nat × Nat} (r : xR_icgt cf M mc ms P) : xR_icgt cf M 0 0 (fun pc lo st μ _ => P pc lo st μ B) := fun pc lo st μ b x y off tgt h0 h1 h2 h3 => r pc lo st μ B x y off tgt h0 h1 h2 h3
theorem zc_ifle {cf : xCf} {M : xMI} {mc ms : Nat} {P : xP} {B : Nat × Nat} (r : xR_ifle cf M mc ms P) : xR_ifle cf M 0 0 (fun pc lo st μ _ => P pc lo st μ B) := fun pc lo st μ b x off tgt h0 h1 h2 h3 => r pc lo st μ B x off tgt h0 h1 h2 h3
theorem zc_icle {cf : xCf} {M : xMI} {mc ms : Nat} {P : xP} {B : Nat × Nat} (r : xR_icle cf M mc ms P) : xR_icle cf M 0 0 (fun pc lo st μ _ => P pc lo st μ B) := fun pc lo st μ b x y off tgt h0 h1 h2 h3 => r pc lo st μ B x y off tgt h0 h1 h2 h3
theorem zc_goto {cf : xCf} {M : xMI} {mc ms : Nat} {P : xP} {B : Nat × Nat} (r : xR_goto cf M mc ms P) : xR_goto cf M 0 0 (fun pc lo st μ _ => P pc lo st μ B) := fun pc lo st μ b off tgt h0 h1 h2 => r pc lo st μ B off tgt h0 h1 h2
theorem zc_tin {cf : xCf} {M : xMI} {mc ms : Nat} {P : xP} {B : Nat × Nat} (r : xR_tin cf M mc ms P) : xR_tin cf M 0 0 (fun pc lo st μ _ => P pc lo st μ B) := fun pc lo st μ b x dflt lo0 hi0 offs n off tgt h0 h1 h2 h3 h4 h5 => r pc lo st μ B x dflt lo0 hi0 offs n off tgt h0 h1 h2 h3 h4 h5
theorem zc_tout {cf : xCf} {M : xMI} {mc ms : Nat} {P : xP} {B : Nat × Nat} (r : xR_tout cf M mc ms P) : xR_tout cf M 0 0 (fun pc lo st μ _ => P pc lo st μ B) := fun pc lo st μ b x dflt lo0 hi0 offs n tgt h0 h1 h2 h3 => r pc lo st μ B x dflt lo0 hi0 offs n tgt h0 h1 h2 h3
theorem zc_look {cf : xCf} {M : xMI} {mc ms : Nat} {P : xP} {B : Nat × Nat} (r : xR_look cf M mc ms P) : xR_look cf M 0 0 (fun pc lo st μ _ => P pc lo st μ B) := fun pc lo st μ b x dflt ps n off tgt h0 h1 h2 h3 h4 => r pc lo st μ B x dflt ps n off tgt h0 h1 h2 h3 h4
theorem zc_getf {cf : xCf} {M : xMI} {mc ms : Nat} {P : xP} {B : Nat × Nat} (r : xR_getf cf M mc ms P) : xR_getf cf M 0 0 (fun pc lo st μ _ => P pc lo st μ B) := fun pc lo st μ b i ci j a fs v h0 h1 h2 h3 h4 => r pc lo st μ B i ci j a fs v h0 h1 h2 h3 h4
theorem zc_getr {cf : xCf} {M : xMI} {mc ms : Nat} {P : xP} {B : Nat × Nat} (r : xR_getr cf M mc ms P) : xR_getr cf M 0 0 (fun pc lo st μ _ => P pc lo st μ B) := fun pc lo st μ b i a o n d v h0 h1 h2 h3 => r pc lo st μ B i a o n d v h0 h1 h2 h3
theorem zc_putf {cf : xCf} {M : xMI} {mc ms : Nat} {P : xP} {B : Nat × Nat} (r : xR_putf cf M mc ms P) : xR_putf cf M 0 0 (fun pc lo st μ _ => P pc lo st μ B) := fun pc lo st μ b i ci j a ty fs v h0 h1 h2 h3 h4 h5 h6 => r pc lo st μ B i ci j a ty fs v h0 h1 h2 h3 h4 h5 h6
theorem zc_putF {cf : xCf} {M : xMI} {mc ms : Nat} {P : xP} {B : Nat × Nat} (r : xR_putF cf M mc ms P) : xR_putF cf M 0 0 (fun pc lo st μ _ => P pc lo st μ B) := fun pc lo st μ b i ci j a ty fs v h0 h1 h2 h3 h4 h5 h6 h7 => r pc lo st μ B i ci j a ty fs v h0 h1 h2 h3 h4 h5 h6 h7
theorem zc_iald {cf : xCf} {M : xMI} {mc ms : Nat} {P : xP} {B : Nat × Nat} (r : xR_iald cf M mc ms P) : xR_iald cf M 0 0 (fun pc lo st μ _ => P pc lo st μ B) := fun pc lo st μ b t a n cA f i h0 h1 h2 h3 h4 => r pc lo st μ B t a n cA f i h0 h1 h2 h3 h4
theorem zc_lald {cf : xCf} {M : xMI} {mc ms : Nat} {P : xP} {B : Nat × Nat} (r : xR_lald cf M mc ms P) : xR_lald cf M 0 0 (fun pc lo st μ _ => P pc lo st μ B) := fun pc lo st μ b t a n cA f i h0 h1 h2 h3 h4 => r pc lo st μ B t a n cA f i h0 h1 h2 h3 h4
theorem zc_aald {cf : xCf} {M : xMI} {mc ms : Nat} {P : xP} {B : Nat × Nat} (r : xR_aald cf M mc ms P) : xR_aald cf M 0 0 (fun pc lo st μ _ => P pc lo st μ B) := fun pc lo st μ b t a n cA C f i h0 h1 h2 h3 h4 => r pc lo st μ B t a n cA C f i h0 h1 h2 h3 h4
theorem zc_ialr {cf : xCf} {M : xMI} {mc ms : Nat} {P : xP} {B : Nat × Nat} (r : xR_ialr cf M mc ms P) : xR_ialr cf M 0 0 (fun pc lo st μ _ => P pc lo st μ B) := fun pc lo st μ b a n f i h0 h1 h2 h3 => r pc lo st μ B a n f i h0 h1 h2 h3
theorem zc_balr {cf : xCf} {M : xMI} {mc ms : Nat} {P : xP} {B : Nat × Nat} (r : xR_balr cf M mc ms P) : xR_balr cf M 0 0 (fun pc lo st μ _ => P pc lo st μ B) := fun pc lo st μ b a n f i h0 h1 h2 h3 => r pc lo st μ B a n f i h0 h1 h2 h3
theorem zc_iast {cf : xCf} {M : xMI} {mc ms : Nat} {P : xP} {B : Nat × Nat} (r : xR_iast cf M mc ms P) : xR_iast cf M 0 0 (fun pc lo st μ _ => P pc lo st μ B) := fun pc lo st μ b t a n cA f i x h0 h1 h2 h3 h4 => r pc lo st μ B t a n cA f i x h0 h1 h2 h3 h4
theorem zc_last {cf : xCf} {M : xMI} {mc ms : Nat} {P : xP} {B : Nat × Nat} (r : xR_last cf M mc ms P) : xR_last cf M 0 0 (fun pc lo st μ _ => P pc lo st μ B) := fun pc lo st μ b t a n cA f i x h0 h1 h2 h3 h4 => r pc lo st μ B t a n cA f i x h0 h1 h2 h3 h4
theorem zc_aast {cf : xCf} {M : xMI} {mc ms : Nat} {P : xP} {B : Nat × Nat} (r : xR_aast cf M mc ms P) : xR_aast cf M 0 0 (fun pc lo st μ _ => P pc lo st μ B) := fun pc lo st μ b t a n ci v cA r vs f i h0 h1 h2 h3 h4 h5 h6 => r pc lo st μ B t a n ci v cA r vs f i h0 h1 h2 h3 h4 h5 h6
theorem zc_alen {cf : xCf} {M : xMI} {mc ms : Nat} {P : xP} {B : Nat × Nat} (r : xR_alen cf M mc ms P) : xR_alen cf M 0 0 (fun pc lo st μ _ => P pc lo st μ B) := fun pc lo st μ b t a cA ty x h0 h1 h2 h3 => r pc lo st μ B t a cA ty x h0 h1 h2 h3
theorem zc_alnr {cf : xCf} {M : xMI} {mc ms : Nat} {P : xP} {B : Nat × Nat} (r : xR_alnr cf M mc ms P) : xR_alnr cf M 0 0 (fun pc lo st μ _ => P pc lo st μ B) := fun pc lo st μ b a n ty f h0 h1 h2 => r pc lo st μ B a n ty f h0 h1 h2
theorem zc_newi {cf : xCf} {M : xMI} {mc ms : Nat} {P : xP} {B : Nat × Nat} (r : xR_newi cf M mc ms P) : xR_newi cf M 0 0 (fun pc lo st μ _ => P pc lo st μ B) := fun pc lo st μ b t N cA n h0 h1 h2 h3 h4 h5 h6 h7 h8 => absurd h6 (by omega)
theorem zc_newl {cf : xCf} {M : xMI} {mc ms : Nat} {P : xP} {B : Nat × Nat} (r : xR_newl cf M mc ms P) : xR_newl cf M 0 0 (fun pc lo st μ _ => P pc lo st μ B) := fun pc lo st μ b t N cA n h0 h1 h2 h3 h4 h5 h6 h7 h8 => absurd h6 (by omega)
theorem zc_newq {cf : xCf} {M : xMI} {mc ms : Nat} {P : xP} {B : Nat × Nat} (r : xR_newq cf M mc ms P) : xR_newq cf M 0 0 (fun pc lo st μ _ => P pc lo st μ B) := fun pc lo st μ b t N i cA C n h0 h1 h2 h3 h4 h5 h6 h7 h8 h9 => absurd h7 (by omega)
theorem zc_new {cf : xCf} {M : xMI} {mc ms : Nat} {P : xP} {B : Nat × Nat} (r : xR_new cf M mc ms P) : xR_new cf M 0 0 (fun pc lo st μ _ => P pc lo st μ B) := fun pc lo st μ b i ci q ty fs h0 h1 h2 h3 h4 h5 h6 h7 h8 h9 => absurd h7 (by omega)
theorem zc_obj {cf : xCf} {M : xMI} {mc ms : Nat} {P : xP} {B : Nat × Nat} (r : xR_obj cf M mc ms P) : xR_obj cf M 0 0 (fun pc lo st μ _ => P pc lo st μ B) := fun pc lo st μ b i a h0 h1 h2 h3 h4 h5 => r pc lo st μ B i a h0 h1 h2 h3 h4 h5
theorem zc_gets {cf : xCf} {M : xMI} {mc ms : Nat} {P : xP} {B : Nat × Nat} (r : xR_gets cf M mc ms P) : xR_gets cf M 0 0 (fun pc lo st μ _ => P pc lo st μ B) := fun pc lo st μ b i C n d v h0 h1 h2 h3 => r pc lo st μ B i C n d v h0 h1 h2 h3
theorem zc_getsN {cf : xCf} {M : xMI} {mc ms : Nat} {P : xP} {B : Nat × Nat} (r : xR_getsN cf M mc ms P) : xR_getsN cf M 0 0 (fun pc lo st μ _ => P pc lo st μ B) := fun pc lo st μ b i C n d h v h0 h1 h2 h3 => r pc lo st μ B i C n d h v h0 h1 h2 h3
theorem zc_cpyi {cf : xCf} {M : xMI} {mc ms : Nat} {P : xP} {B : Nat × Nat} (r : xR_cpyi cf M mc ms P) : xR_cpyi cf M 0 0 (fun pc lo st μ _ => P pc lo st μ B) := fun pc lo st μ b i t a0 a n0 n1 cA f g sp dp n h0 h1 h2 h3 h4 h5 h6 h7 h8 h9 h10 h11 => r pc lo st μ B i t a0 a n0 n1 cA f g sp dp n h0 h1 h2 h3 h4 h5 h6 h7 h8 h9 h10 h11
theorem zc_cpyl {cf : xCf} {M : xMI} {mc ms : Nat} {P : xP} {B : Nat × Nat} (r : xR_cpyl cf M mc ms P) : xR_cpyl cf M 0 0 (fun pc lo st μ _ => P pc lo st μ B) := fun pc lo st μ b i t a0 a n0 n1 cA f g sp dp n h0 h1 h2 h3 h4 h5 h6 h7 h8 h9 h10 h11 => r pc lo st μ B i t a0 a n0 n1 cA f g sp dp n h0 h1 h2 h3 h4 h5 h6 h7 h8 h9 h10 h11
theorem zc_cpyr {cf : xCf} {M : xMI} {mc ms : Nat} {P : xP} {B : Nat × Nat} (r : xR_cpyr cf M mc ms P) : xR_cpyr cf M 0 0 (fun pc lo st μ _ => P pc lo st μ B) := fun pc lo st μ b i t a0 a n0 n1 cA f g sp dp n h0 h1 h2 h3 h4 h5 h6 h7 h8 h9 h10 h11 => r pc lo st μ B i t a0 a n0 n1 cA f g sp dp n h0 h1 h2 h3 h4 h5 h6 h7 h8 h9 h10 h11
theorem zc_mabs {cf : xCf} {M : xMI} {mc ms : Nat} {P : xP} {B : Nat × Nat} (r : xR_mabs cf M mc ms P) : xR_mabs cf M 0 0 (fun pc lo st μ _ => P pc lo st μ B) := fun pc lo st μ b i x h0 h1 h2 h3 h4 h5 => r pc lo st μ B i x h0 h1 h2 h3 h4 h5
theorem zc_mmax {cf : xCf} {M : xMI} {mc ms : Nat} {P : xP} {B : Nat × Nat} (r : xR_mmax cf M mc ms P) : xR_mmax cf M 0 0 (fun pc lo st μ _ => P pc lo st μ B) := fun pc lo st μ b i x y h0 h1 h2 h3 h4 h5 => r pc lo st μ B i x y h0 h1 h2 h3 h4 h5
theorem zc_mmin {cf : xCf} {M : xMI} {mc ms : Nat} {P : xP} {B : Nat × Nat} (r : xR_mmin cf M mc ms P) : xR_mmin cf M 0 0 (fun pc lo st μ _ => P pc lo st μ B) := fun pc lo st μ b i x y h0 h1 h2 h3 h4 h5 => r pc lo st μ B i x y h0 h1 h2 h3 h4 h5
theorem zc_rules {cf : xCf} {M : xMI} {mc ms : Nat} {P : xP} {B : Nat × Nat} (r : xRules cf M mc ms P) : xRules cf M 0 0 (fun pc lo st μ _ => P pc lo st μ B) := by
  obtain ⟨r0, r1, r2, r3, r4, r5, r6, r7, r8, r9, r10, r11, r12, r13, r14, r15, r16, r17, r18, r19, r20, r21, r22, r23, r24, r25, r26, r27, r28, r29, r30, r31, r32, r33, r34, r35, r36, r37, r38, r39, r40, r41, r42, r43, r44, r45, r46, r47, r48, r49, r50, r51, r52, r53, r54, r55, r56, r57, r58, r59, r60, r61, r62, r63⟩ := r
  exact ⟨zc_stk r0, zc_div r1, zc_rem r2, zc_ldiv r3, zc_ldc r4, zc_ldcw r5, zc_ldc2 r6, zc_ldcs r7, zc_iloadN r8, zc_iload r9, zc_lloadN r10, zc_lload r11, zc_aloadN r12, zc_aload r13, zc_istoreN r14, zc_istore r15, zc_astoreN r16, zc_astore r17, zc_lstoreN r18, zc_lstore r19, zc_iinc r20, zc_ifeq r21, zc_iceq r22, zc_ifne r23, zc_icne r24, zc_iflt r25, zc_iclt r26, zc_ifge r27, zc_icge r28, zc_ifgt r29, zc_icgt r30, zc_ifle r31, zc_icle r32, zc_goto r33, zc_tin r34, zc_tout r35, zc_look r36, zc_getf r37, zc_getr r38, zc_putf r39, zc_putF r40, zc_iald r41, zc_lald r42, zc_aald r43, zc_ialr r44, zc_balr r45, zc_iast r46, zc_last r47, zc_aast r48, zc_alen r49, zc_alnr r50, zc_newi r51, zc_newl r52, zc_newq r53, zc_new r54, zc_obj r55, zc_gets r56, zc_getsN r57, zc_cpyi r58, zc_cpyl r59, zc_cpyr r60, zc_mabs r61, zc_mmax r62, zc_mmin r63⟩
theorem zc_calls {cf : xCf} {call : xCall} {M : xMI} {mc ms : Nat} {P : xP} {B : Nat × Nat} (hB : B.1 ≤ mc ∧ B.2 ≤ ms) (r : xCalls cf call M mc ms P) : xCalls cf call M 0 0 (fun pc lo st μ _ => P pc lo st μ B) := by
  obtain ⟨r1, r2, r3⟩ := r
  refine ⟨?_, ?_, ?_⟩
  · intro pc lo rest As μ b i n a mc2 ms2 N h0 h1 h2 h3 h4 h5 h6 h7 k
    have e1 : mc2 = 0 := by omega
    have e2 : ms2 = 0 := by omega
    subst e1; subst e2
    exact r1 pc lo rest As μ B i n a 0 0 N h0 h1 h2 h3 h4 (by omega) (by omega) h7 k
  · intro pc lo rest As μ b i n mc2 ms2 N h0 h1 h2 h4 h5 h6 h7 k
    have e1 : mc2 = 0 := by omega
    have e2 : ms2 = 0 := by omega
    subst e1; subst e2
    exact r2 pc lo rest As μ B i n 0 0 N h0 h1 h2 h4 (by omega) (by omega) h7 k
  · intro pc lo rest As μ b i n a mc2 ms2 N h0 h1 h2 h4 h5 h6 h7 k
    have e1 : mc2 = 0 := by omega
    have e2 : ms2 = 0 := by omega
    subst e1; subst e2
    exact r3 pc lo rest As μ B i n a 0 0 N h0 h1 h2 h4 (by omega) (by omega) h7 k
theorem zc_rets {M : xMI} {mc ms : Nat} {Q : xQ} {P : xP} {B : Nat × Nat} (hB : B.1 ≤ mc ∧ B.2 ≤ ms) (r : xRets M mc ms Q P) : xRets M 0 0 Q (fun pc lo st μ _ => P pc lo st μ B) := by
  obtain ⟨r1, r2, r3, r4⟩ := r
  exact ⟨fun pc lo μ b ty v a1 a2 a3 _ _ q => r1 pc lo μ B ty v a1 a2 a3 hB.1 hB.2 q, fun pc lo μ b v a1 a2 _ _ q => r2 pc lo μ B v a1 a2 hB.1 hB.2 q, fun pc lo μ b C v a1 a2 _ _ q => r3 pc lo μ B C v a1 a2 hB.1 hB.2 q, fun pc lo μ b a1 a2 _ _ q => r4 pc lo μ B a1 a2 hB.1 hB.2 q⟩
/-- from what En says of the loop to the law's own frame -/
theorem zc_go {z : xZ} {d : Nat} {M : xMI} {mc ms : Nat} {Q : xQ} {P : xP} {pc : Nat} {lo : xLoc} {st : List Value} {μ : xMem} (B : Nat × Nat) (hB : B.1 ≤ mc ∧ B.2 ≤ ms) (h : Ex (Cf z) (d + 1) M 0 0 Q pc lo st μ (0, 0)) (r1 : xRules (Cf z) M mc ms P) (r2 : xRets M mc ms Q P) (r3 : xCalls (Cf z) (Ex (Cf z) d) M mc ms P) : P pc lo st μ B := h _ (zc_rules r1) (zc_rets hB r2) (zc_calls hB r3)
