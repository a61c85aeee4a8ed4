/-! steps of both worlds at once, as the law takes them -/
abbrev lzSx : Type := (Nat → Nat → Int32) × (Nat → Nat → Int32) × (Nat → Nat → Int32) × (Nat → Nat → Int32) × (Nat → Nat → Int32) × (Nat → Nat → Nat → Int32) × (Nat → Nat → Int32) × (Nat → Nat → Nat → Int32) × (Nat → Int64)
abbrev lzSm : Type := (Nat → Nat → Int32) × (Nat → Int64)
def XWs (G : lzG) (ad : Nat → Nat → Nat → Nat) (u : lzSx) : va_W := XW G ad u.1 u.2.1 u.2.2.1 u.2.2.2.1 u.2.2.2.2.1 u.2.2.2.2.2.1 u.2.2.2.2.2.2.1 u.2.2.2.2.2.2.2.1 u.2.2.2.2.2.2.2.2
def MWs (G : lzG) (ad : Nat → Nat → Nat → Nat) (v : lzSm) : va_W := MW G ad v.1 v.2
def JW (G : lzG) (ad : Nat → Nat → Nat → Nat) (w : lzSx × lzSm) : va_W := XWs G ad w.1 ++ MWs G ad w.2
def RelS (w : lzSx × lzSm) : Prop := Rel w.1.1 w.1.2.1 w.1.2.2.1 w.1.2.2.2.2.1 w.1.2.2.2.2.2.1 w.1.2.2.2.2.2.2.1 w.1.2.2.2.2.2.2.2.1 w.2.1
def JC (l : Launch) (G : lzG) (ad : Nat → Nat → Nat → Nat) (aK aV : Nat) (y : MethodName) (wl : List Cond) (As : List Value) (w : lzSx × lzSm) (P : Int32 → lzSx × lzSm → Prop) : Prop :=
  Met l y wl lzRm (va_Pc As (rwsP G (JW G ad w) aK aV)) (va_Qi P (rwB G (JW G ad)) (lzA (JW G ad w))) 0 0 (lzA (JW G ad w))
def JCl (l : Launch) (G : lzG) (ad : Nat → Nat → Nat → Nat) (aK aV : Nat) (y : MethodName) (wl : List Cond) (As : List Value) (w : lzSx × lzSm) (P : Int64 → lzSx × lzSm → Prop) : Prop :=
  Met l y wl lzRm (va_Pc As (rwsP G (JW G ad w) aK aV)) (va_Ql P (rwB G (JW G ad)) (lzA (JW G ad w))) 0 0 (lzA (JW G ad w))
/-- the class first, the reference behind it: the same answer, and the worlds go on agreeing -/
def stepJ (l : Launch) (G : lzG) (ad : Nat → Nat → Nat → Nat) (aK aV : Nat) (yx : MethodName) (wx : List Cond) (ym : MethodName) (wm : List Cond) (As : List Value) (w : lzSx × lzSm) : Prop :=
  ∃ P : Int32 → lzSx × lzSm → Prop, JC l G ad aK aV yx wx (.ref (ad 0 0 0) :: As) w P ∧ ∀ (r : Int32) (w1 : lzSx × lzSm), P r w1 → ∃ Q : Int32 → lzSx × lzSm → Prop, JC l G ad aK aV ym wm (.ref (ad 11 0 0) :: As) w1 Q ∧ ∀ (r2 : Int32) (w2 : lzSx × lzSm), Q r2 w2 → r = r2 ∧ RelS w2
def stepJl (l : Launch) (G : lzG) (ad : Nat → Nat → Nat → Nat) (aK aV : Nat) (yx : MethodName) (wx : List Cond) (ym : MethodName) (wm : List Cond) (As : List Value) (w : lzSx × lzSm) : Prop :=
  ∃ P : Int64 → lzSx × lzSm → Prop, JCl l G ad aK aV yx wx (.ref (ad 0 0 0) :: As) w P ∧ ∀ (r : Int64) (w1 : lzSx × lzSm), P r w1 → ∃ Q : Int64 → lzSx × lzSm → Prop, JCl l G ad aK aV ym wm (.ref (ad 11 0 0) :: As) w1 Q ∧ ∀ (r2 : Int64) (w2 : lzSx × lzSm), Q r2 w2 → r = r2 ∧ RelS w2
section FG
variable {l : Launch} {y : MethodName} {wl : List Cond} {rm : Room} {As : List Value} {G : lzG} {W wc wr : va_W} {aK aV : Nat} {S S2 : Type} {Pr : State → Prop} {Wd : S → va_W} {W2 : S2 → va_W}
theorem fr_gen {post : Int32 → S → Prop} {post2 : Int32 → S2 → Prop} (h : Met l y wl rm (va_Pc As Pr) (va_Qi (S := S) post (rwB G Wd) (lzA wc)) 0 0 (lzA wc)) (hpre : ∀ U, rwsP G W aK aV U → Pr U) (hp : W.Perm (wc ++ wr)) (f : S → S2) (hr : ∀ r u, post r u → post2 r (f u)) (hp2 : ∀ u, (W2 (f u)).Perm (Wd u ++ wr)) :
    Met l y wl rm (va_Pc As (rwsP G W aK aV)) (va_Qi (S := S2) post2 (rwB G W2) (lzA W)) 0 0 (lzA W) := by
  refine MetFree.mono h (fun a s q => ⟨q.1, hpre _ q.2⟩) (fun _ _ _ _ _ q => q) (fun a st o t hpre q => ?_)
  obtain ⟨q1, ⟨q2, q3, q4⟩, -⟩ := hpre
  obtain ⟨⟨⟨r, u, e1, e2, e3⟩, hF⟩, L, f1, f2⟩ := q
  refine ⟨⟨⟨r, f u, e1, hr r u e2, ?_⟩, hF.1, fun q0 h0 hn => hF.2 q0 h0 (fun h9 => hn (lzA_perm hp q0 h9))⟩, L, f1, fun z hz => lzA_perm hp _ (f2 z hz)⟩
  exact P_perm (hp2 u).symm (P_app e3 (fr_rest (P_perm hp q2) (D_perm hp q4) hF.2))
theorem fr_genl {post : Int64 → S → Prop} {post2 : Int64 → S2 → Prop} (h : Met l y wl rm (va_Pc As Pr) (va_Ql (S := S) post (rwB G Wd) (lzA wc)) 0 0 (lzA wc)) (hpre : ∀ U, rwsP G W aK aV U → Pr U) (hp : W.Perm (wc ++ wr)) (f : S → S2) (hr : ∀ r u, post r u → post2 r (f u)) (hp2 : ∀ u, (W2 (f u)).Perm (Wd u ++ wr)) :
    Met l y wl rm (va_Pc As (rwsP G W aK aV)) (va_Ql (S := S2) post2 (rwB G W2) (lzA W)) 0 0 (lzA W) := by
  refine MetFree.mono h (fun a s q => ⟨q.1, hpre _ q.2⟩) (fun _ _ _ _ _ q => q) (fun a st o t hpre q => ?_)
  obtain ⟨q1, ⟨q2, q3, q4⟩, -⟩ := hpre
  obtain ⟨⟨⟨r, u, e1, e2, e3⟩, hF⟩, L, f1, f2⟩ := q
  refine ⟨⟨⟨r, f u, e1, hr r u e2, ?_⟩, hF.1, fun q0 h0 hn => hF.2 q0 h0 (fun h9 => hn (lzA_perm hp q0 h9))⟩, L, f1, fun z hz => lzA_perm hp _ (f2 z hz)⟩
  exact P_perm (hp2 u).symm (P_app e3 (fr_rest (P_perm hp q2) (D_perm hp q4) hF.2))
theorem rws_part (hp : W.Perm (wc ++ wr)) : ∀ U, rwsP G W aK aV U → rwsP G wc aK aV U := fun U ⟨⟨q2, q3, q4⟩, q5⟩ => ⟨⟨(P_split (P_perm hp q2)).1, q3, (D_split (D_perm hp q4)).1⟩, q5.narrow (lzA_perm hp)⟩
theorem rws_partP (hp : W.Perm (wc ++ wr)) : ∀ U, rwsP G W aK aV U → rwP G wc U := fun U q => (rws_part hp U q).1
end FG
section SJ
variable {l : Launch} {G : lzG} {ad : Nat → Nat → Nat → Nat} {aK aV : Nat} {y yx ym : MethodName} {wl wx wm : List Cond} {As : List Value} {C it F FS RS : Nat → Nat → Int32} {RF : Nat → Nat → Nat → Int32} {MD : Nat → Nat → Int32} {MF : Nat → Nat → Nat → Int32} {cs : Nat → Int64} {B : Nat → Nat → Int32} {wy : Nat → Int64}
theorem jw_perm (w : lzSx × lzSm) : (JW G ad w).Perm (MWs G ad w.2 ++ XWs G ad w.1) := List.perm_append_comm
/-- a plain step is a step -/
theorem stepJ_of (w : lzSx × lzSm) (h : stepX l G ad aK aV yx wx ym wm As w.1.1 w.1.2.1 w.1.2.2.1 w.1.2.2.2.1 w.1.2.2.2.2.1 w.1.2.2.2.2.2.1 w.1.2.2.2.2.2.2.1 w.1.2.2.2.2.2.2.2.1 w.1.2.2.2.2.2.2.2.2 w.2.1 w.2.2) : stepJ l G ad aK aV yx wx ym wm As w := by
  obtain ⟨r, C2, it2, F2, FS2, RS2, RF2, MD2, MF2, cs2, B2, wy2, hx, hm, hr⟩ := h
  let u2 : lzSx := (C2, it2, F2, FS2, RS2, RF2, MD2, MF2, cs2)
  refine ⟨fun r' w' => r' = r ∧ w' = (u2, w.2), ?_, ?_⟩
  · exact fr_gen (W := JW G ad w) (wc := XWs G ad w.1) (wr := MWs G ad w.2) (W2 := JW G ad) hx (rws_part (List.Perm.refl _)) (List.Perm.refl _) (fun _ => (u2, w.2)) (fun r' _ e => ⟨e, rfl⟩) (fun _ => List.Perm.refl _)
  · rintro r' w' ⟨e1, e2⟩
    subst e1
    subst e2
    refine ⟨fun r'' w'' => r'' = r' ∧ w'' = (u2, (B2, wy2)), ?_, ?_⟩
    · exact fr_gen (W := JW G ad (u2, w.2)) (wc := MWs G ad w.2) (wr := XWs G ad u2) (W2 := JW G ad) hm (rws_part (jw_perm (u2, w.2))) (jw_perm (u2, w.2)) (fun _ => (u2, (B2, wy2))) (fun r'' _ e => ⟨e, rfl⟩) (fun _ => jw_perm (u2, (B2, wy2)))
    · rintro r'' w'' ⟨e1, e2⟩
      subst e1
      subst e2
      exact ⟨rfl, hr⟩
end SJ
