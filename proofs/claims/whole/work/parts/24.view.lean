/-! TWO VIEWS: what the class holds (cv), what the reference holds (mv): 0 the state, 1 what is kept, 2 findings, 3 the tape, 4 whether something is kept and how many bytes, 5 bits, 6 sizes, 7 numbers of the sheets -/
abbrev xV : Type := Nat → Nat → Int32
def vw (g k F T c B N M : Nat → Int32) : xV := fun b => if b = 0 then g else if b = 1 then (if c 0 = 0 then (fun _ => 0) else k) else if b = 2 then F else if b = 3 then T else if b = 4 then (fun i => if i < 2 then c i else 0) else if b = 5 then B else if b = 6 then N else if b = 7 then M else (fun _ => 0)
def cv (σ : xV) : xV := vw (σ 0) (σ 1) (σ 4) (σ 5) (σ 6) (σ 7) (σ 8) (σ 9)
def mv (σ : xV) : xV := vw (σ 10) (σ 13) (σ 14) (σ 16) (σ 17) (σ 18) (σ 19) (σ 20)
theorem vw_g (g k F T c B N M f : Nat → Int32) : vw f k F T c B N M = va_up (vw g k F T c B N M) 0 f := by
  funext b
  by_cases h : b = 0 <;> simp [vw, va_up, h]
theorem vw_F (g k F T c B N M f : Nat → Int32) : vw g k f T c B N M = va_up (vw g k F T c B N M) 2 f := by
  funext b
  by_cases h : b = 2 <;> simp [vw, va_up, h]
theorem vw_T (g k F T c B N M f : Nat → Int32) : vw g k F f c B N M = va_up (vw g k F T c B N M) 3 f := by
  funext b
  by_cases h : b = 3 <;> simp [vw, va_up, h]
theorem vw_B (g k F T c B N M f : Nat → Int32) : vw g k F T c f N M = va_up (vw g k F T c B N M) 5 f := by
  funext b
  by_cases h : b = 5 <;> simp [vw, va_up, h]
theorem vw_N (g k F T c B N M f : Nat → Int32) : vw g k F T c B f M = va_up (vw g k F T c B N M) 6 f := by
  funext b
  by_cases h : b = 6 <;> simp [vw, va_up, h]
theorem vw_M (g k F T c B N M f : Nat → Int32) : vw g k F T c B N f = va_up (vw g k F T c B N M) 7 f := by
  funext b
  by_cases h : b = 7 <;> simp [vw, va_up, h]
theorem vw_c1 (g k F T c B N M : Nat → Int32) (x : Int32) : vw g k F T (upd c 1 x) B N M = u2 (vw g k F T c B N M) 4 1 x := by
  funext b
  by_cases h : b = 4
  · subst h
    funext i
    by_cases hi : i = 1
    · subst hi
      simp [vw, u2, va_up, upd]
    · simp [vw, u2, va_up, upd, hi]
  · by_cases h1 : b = 1
    · subst h1
      simp [vw, u2, va_up, upd]
    · simp [vw, u2, va_up, h, h1]
theorem vw_c2 (g k F T c B N M : Nat → Int32) {i : Nat} (x : Int32) (hi : 2 ≤ i) : vw g k F T (upd c i x) B N M = vw g k F T c B N M := by
  have h0 : upd c i x 0 = c 0 := upd_ne (by omega)
  unfold vw
  rw [h0]
  funext b
  by_cases h : b = 4
  · subst h
    funext j
    by_cases hj : j < 2
    · simp [hj, upd_ne (show j ≠ i by omega)]
    · simp [hj]
  · simp [h]
theorem cv_v0 (σ : xV) (f : Nat → Int32) : cv (va_up σ 0 f) = va_up (cv σ) 0 f := vw_g _ _ _ _ _ _ _ _ f
theorem cv_u0 (σ : xV) (i : Nat) (x : Int32) : cv (u2 σ 0 i x) = u2 (cv σ) 0 i x := cv_v0 σ _
theorem cv_v2 (σ : xV) (f : Nat → Int32) : cv (va_up σ 2 f) = cv σ := rfl
theorem cv_u2 (σ : xV) (i : Nat) (x : Int32) : cv (u2 σ 2 i x) = cv σ := rfl
theorem cv_v3 (σ : xV) (f : Nat → Int32) : cv (va_up σ 3 f) = cv σ := rfl
theorem cv_u3 (σ : xV) (i : Nat) (x : Int32) : cv (u2 σ 3 i x) = cv σ := rfl
theorem cv_v4 (σ : xV) (f : Nat → Int32) : cv (va_up σ 4 f) = va_up (cv σ) 2 f := vw_F _ _ _ _ _ _ _ _ f
theorem cv_u4 (σ : xV) (i : Nat) (x : Int32) : cv (u2 σ 4 i x) = u2 (cv σ) 2 i x := cv_v4 σ _
theorem cv_v5 (σ : xV) (f : Nat → Int32) : cv (va_up σ 5 f) = va_up (cv σ) 3 f := vw_T _ _ _ _ _ _ _ _ f
theorem cv_u5 (σ : xV) (i : Nat) (x : Int32) : cv (u2 σ 5 i x) = u2 (cv σ) 3 i x := cv_v5 σ _
theorem cv_u6_1 (σ : xV) (x : Int32) : cv (u2 σ 6 1 x) = u2 (cv σ) 4 1 x := vw_c1 _ _ _ _ _ _ _ _ x
theorem cv_u6_2 (σ : xV) (x : Int32) : cv (u2 σ 6 2 x) = cv σ := vw_c2 _ _ _ _ _ _ _ _ x (by decide)
theorem cv_u6_3 (σ : xV) (x : Int32) : cv (u2 σ 6 3 x) = cv σ := vw_c2 _ _ _ _ _ _ _ _ x (by decide)
theorem cv_u6_4 (σ : xV) (x : Int32) : cv (u2 σ 6 4 x) = cv σ := vw_c2 _ _ _ _ _ _ _ _ x (by decide)
theorem cv_u6_5 (σ : xV) (x : Int32) : cv (u2 σ 6 5 x) = cv σ := vw_c2 _ _ _ _ _ _ _ _ x (by decide)
theorem cv_u6_6 (σ : xV) (x : Int32) : cv (u2 σ 6 6 x) = cv σ := vw_c2 _ _ _ _ _ _ _ _ x (by decide)
theorem cv_v7 (σ : xV) (f : Nat → Int32) : cv (va_up σ 7 f) = va_up (cv σ) 5 f := vw_B _ _ _ _ _ _ _ _ f
theorem cv_u7 (σ : xV) (i : Nat) (x : Int32) : cv (u2 σ 7 i x) = u2 (cv σ) 5 i x := cv_v7 σ _
theorem cv_v8 (σ : xV) (f : Nat → Int32) : cv (va_up σ 8 f) = va_up (cv σ) 6 f := vw_N _ _ _ _ _ _ _ _ f
theorem cv_u8 (σ : xV) (i : Nat) (x : Int32) : cv (u2 σ 8 i x) = u2 (cv σ) 6 i x := cv_v8 σ _
theorem cv_v9 (σ : xV) (f : Nat → Int32) : cv (va_up σ 9 f) = va_up (cv σ) 7 f := vw_M _ _ _ _ _ _ _ _ f
theorem cv_u9 (σ : xV) (i : Nat) (x : Int32) : cv (u2 σ 9 i x) = u2 (cv σ) 7 i x := cv_v9 σ _
theorem cv_v10 (σ : xV) (f : Nat → Int32) : cv (va_up σ 10 f) = cv σ := rfl
theorem cv_u10 (σ : xV) (i : Nat) (x : Int32) : cv (u2 σ 10 i x) = cv σ := rfl
theorem cv_v11 (σ : xV) (f : Nat → Int32) : cv (va_up σ 11 f) = cv σ := rfl
theorem cv_u11 (σ : xV) (i : Nat) (x : Int32) : cv (u2 σ 11 i x) = cv σ := rfl
theorem cv_v12 (σ : xV) (f : Nat → Int32) : cv (va_up σ 12 f) = cv σ := rfl
theorem cv_u12 (σ : xV) (i : Nat) (x : Int32) : cv (u2 σ 12 i x) = cv σ := rfl
theorem cv_v13 (σ : xV) (f : Nat → Int32) : cv (va_up σ 13 f) = cv σ := rfl
theorem cv_u13 (σ : xV) (i : Nat) (x : Int32) : cv (u2 σ 13 i x) = cv σ := rfl
theorem cv_v14 (σ : xV) (f : Nat → Int32) : cv (va_up σ 14 f) = cv σ := rfl
theorem cv_u14 (σ : xV) (i : Nat) (x : Int32) : cv (u2 σ 14 i x) = cv σ := rfl
theorem cv_v15 (σ : xV) (f : Nat → Int32) : cv (va_up σ 15 f) = cv σ := rfl
theorem cv_u15 (σ : xV) (i : Nat) (x : Int32) : cv (u2 σ 15 i x) = cv σ := rfl
theorem cv_v16 (σ : xV) (f : Nat → Int32) : cv (va_up σ 16 f) = cv σ := rfl
theorem cv_u16 (σ : xV) (i : Nat) (x : Int32) : cv (u2 σ 16 i x) = cv σ := rfl
theorem cv_v17 (σ : xV) (f : Nat → Int32) : cv (va_up σ 17 f) = cv σ := rfl
theorem cv_u17 (σ : xV) (i : Nat) (x : Int32) : cv (u2 σ 17 i x) = cv σ := rfl
theorem cv_v18 (σ : xV) (f : Nat → Int32) : cv (va_up σ 18 f) = cv σ := rfl
theorem cv_u18 (σ : xV) (i : Nat) (x : Int32) : cv (u2 σ 18 i x) = cv σ := rfl
theorem cv_v19 (σ : xV) (f : Nat → Int32) : cv (va_up σ 19 f) = cv σ := rfl
theorem cv_u19 (σ : xV) (i : Nat) (x : Int32) : cv (u2 σ 19 i x) = cv σ := rfl
theorem cv_v20 (σ : xV) (f : Nat → Int32) : cv (va_up σ 20 f) = cv σ := rfl
theorem cv_u20 (σ : xV) (i : Nat) (x : Int32) : cv (u2 σ 20 i x) = cv σ := rfl
theorem cv_v21 (σ : xV) (f : Nat → Int32) : cv (va_up σ 21 f) = cv σ := rfl
theorem cv_u21 (σ : xV) (i : Nat) (x : Int32) : cv (u2 σ 21 i x) = cv σ := rfl
theorem cv_v22 (σ : xV) (f : Nat → Int32) : cv (va_up σ 22 f) = cv σ := rfl
theorem cv_u22 (σ : xV) (i : Nat) (x : Int32) : cv (u2 σ 22 i x) = cv σ := rfl
theorem mv_v0 (σ : xV) (f : Nat → Int32) : mv (va_up σ 0 f) = mv σ := rfl
theorem mv_u0 (σ : xV) (i : Nat) (x : Int32) : mv (u2 σ 0 i x) = mv σ := rfl
theorem mv_v1 (σ : xV) (f : Nat → Int32) : mv (va_up σ 1 f) = mv σ := rfl
theorem mv_u1 (σ : xV) (i : Nat) (x : Int32) : mv (u2 σ 1 i x) = mv σ := rfl
theorem mv_v2 (σ : xV) (f : Nat → Int32) : mv (va_up σ 2 f) = mv σ := rfl
theorem mv_u2 (σ : xV) (i : Nat) (x : Int32) : mv (u2 σ 2 i x) = mv σ := rfl
theorem mv_v3 (σ : xV) (f : Nat → Int32) : mv (va_up σ 3 f) = mv σ := rfl
theorem mv_u3 (σ : xV) (i : Nat) (x : Int32) : mv (u2 σ 3 i x) = mv σ := rfl
theorem mv_v4 (σ : xV) (f : Nat → Int32) : mv (va_up σ 4 f) = mv σ := rfl
theorem mv_u4 (σ : xV) (i : Nat) (x : Int32) : mv (u2 σ 4 i x) = mv σ := rfl
theorem mv_v5 (σ : xV) (f : Nat → Int32) : mv (va_up σ 5 f) = mv σ := rfl
theorem mv_u5 (σ : xV) (i : Nat) (x : Int32) : mv (u2 σ 5 i x) = mv σ := rfl
theorem mv_v6 (σ : xV) (f : Nat → Int32) : mv (va_up σ 6 f) = mv σ := rfl
theorem mv_u6 (σ : xV) (i : Nat) (x : Int32) : mv (u2 σ 6 i x) = mv σ := rfl
theorem mv_v7 (σ : xV) (f : Nat → Int32) : mv (va_up σ 7 f) = mv σ := rfl
theorem mv_u7 (σ : xV) (i : Nat) (x : Int32) : mv (u2 σ 7 i x) = mv σ := rfl
theorem mv_v8 (σ : xV) (f : Nat → Int32) : mv (va_up σ 8 f) = mv σ := rfl
theorem mv_u8 (σ : xV) (i : Nat) (x : Int32) : mv (u2 σ 8 i x) = mv σ := rfl
theorem mv_v9 (σ : xV) (f : Nat → Int32) : mv (va_up σ 9 f) = mv σ := rfl
theorem mv_u9 (σ : xV) (i : Nat) (x : Int32) : mv (u2 σ 9 i x) = mv σ := rfl
theorem mv_v10 (σ : xV) (f : Nat → Int32) : mv (va_up σ 10 f) = va_up (mv σ) 0 f := vw_g _ _ _ _ _ _ _ _ f
theorem mv_u10 (σ : xV) (i : Nat) (x : Int32) : mv (u2 σ 10 i x) = u2 (mv σ) 0 i x := mv_v10 σ _
theorem mv_v11 (σ : xV) (f : Nat → Int32) : mv (va_up σ 11 f) = mv σ := rfl
theorem mv_u11 (σ : xV) (i : Nat) (x : Int32) : mv (u2 σ 11 i x) = mv σ := rfl
theorem mv_v12 (σ : xV) (f : Nat → Int32) : mv (va_up σ 12 f) = mv σ := rfl
theorem mv_u12 (σ : xV) (i : Nat) (x : Int32) : mv (u2 σ 12 i x) = mv σ := rfl
theorem mv_v14 (σ : xV) (f : Nat → Int32) : mv (va_up σ 14 f) = va_up (mv σ) 2 f := vw_F _ _ _ _ _ _ _ _ f
theorem mv_u14 (σ : xV) (i : Nat) (x : Int32) : mv (u2 σ 14 i x) = u2 (mv σ) 2 i x := mv_v14 σ _
theorem mv_v15 (σ : xV) (f : Nat → Int32) : mv (va_up σ 15 f) = mv σ := rfl
theorem mv_u15 (σ : xV) (i : Nat) (x : Int32) : mv (u2 σ 15 i x) = mv σ := rfl
theorem mv_v16 (σ : xV) (f : Nat → Int32) : mv (va_up σ 16 f) = va_up (mv σ) 3 f := vw_T _ _ _ _ _ _ _ _ f
theorem mv_u16 (σ : xV) (i : Nat) (x : Int32) : mv (u2 σ 16 i x) = u2 (mv σ) 3 i x := mv_v16 σ _
theorem mv_u17_1 (σ : xV) (x : Int32) : mv (u2 σ 17 1 x) = u2 (mv σ) 4 1 x := vw_c1 _ _ _ _ _ _ _ _ x
theorem mv_u17_2 (σ : xV) (x : Int32) : mv (u2 σ 17 2 x) = mv σ := vw_c2 _ _ _ _ _ _ _ _ x (by decide)
theorem mv_u17_3 (σ : xV) (x : Int32) : mv (u2 σ 17 3 x) = mv σ := vw_c2 _ _ _ _ _ _ _ _ x (by decide)
theorem mv_u17_4 (σ : xV) (x : Int32) : mv (u2 σ 17 4 x) = mv σ := vw_c2 _ _ _ _ _ _ _ _ x (by decide)
theorem mv_u17_5 (σ : xV) (x : Int32) : mv (u2 σ 17 5 x) = mv σ := vw_c2 _ _ _ _ _ _ _ _ x (by decide)
theorem mv_u17_6 (σ : xV) (x : Int32) : mv (u2 σ 17 6 x) = mv σ := vw_c2 _ _ _ _ _ _ _ _ x (by decide)
theorem mv_v18 (σ : xV) (f : Nat → Int32) : mv (va_up σ 18 f) = va_up (mv σ) 5 f := vw_B _ _ _ _ _ _ _ _ f
theorem mv_u18 (σ : xV) (i : Nat) (x : Int32) : mv (u2 σ 18 i x) = u2 (mv σ) 5 i x := mv_v18 σ _
theorem mv_v19 (σ : xV) (f : Nat → Int32) : mv (va_up σ 19 f) = va_up (mv σ) 6 f := vw_N _ _ _ _ _ _ _ _ f
theorem mv_u19 (σ : xV) (i : Nat) (x : Int32) : mv (u2 σ 19 i x) = u2 (mv σ) 6 i x := mv_v19 σ _
theorem mv_v20 (σ : xV) (f : Nat → Int32) : mv (va_up σ 20 f) = va_up (mv σ) 7 f := vw_M _ _ _ _ _ _ _ _ f
theorem mv_u20 (σ : xV) (i : Nat) (x : Int32) : mv (u2 σ 20 i x) = u2 (mv σ) 7 i x := mv_v20 σ _
theorem mv_v21 (σ : xV) (f : Nat → Int32) : mv (va_up σ 21 f) = mv σ := rfl
theorem mv_u21 (σ : xV) (i : Nat) (x : Int32) : mv (u2 σ 21 i x) = mv σ := rfl
theorem mv_v22 (σ : xV) (f : Nat → Int32) : mv (va_up σ 22 f) = mv σ := rfl
theorem mv_u22 (σ : xV) (i : Nat) (x : Int32) : mv (u2 σ 22 i x) = mv σ := rfl
/-! what always holds of a view; T: at most so many ticks were done -/
def deedOK (d n : Int32) : Prop := (0 ≤ d.toInt ∧ d.toInt ≤ 12) ∧ (d.toInt < 7 → 0 ≤ n.toInt ∧ n.toInt ≤ 11) ∧ (7 ≤ d.toInt → d.toInt < 10 → 0 ≤ n.toInt ∧ n.toInt ≤ 99) ∧ (d.toInt = 10 → 1 ≤ n.toInt ∧ n.toInt ≤ 99) ∧ (d.toInt = 11 → -200 ≤ n.toInt ∧ n.toInt ≤ 200) ∧ (d.toInt = 12 → 1 ≤ n.toInt ∧ n.toInt ≤ 50)
def pI (g : Nat → Int32) : Prop := ∀ p, p < 6 → (0 ≤ (g (134 + 25 * p)).toInt ∧ (g (134 + 25 * p)).toInt ≤ 12) ∧ ∀ k, k < (g (134 + 25 * p)).toNatClampNeg → deedOK (g (135 + 25 * p + 2 * k)) (g (136 + 25 * p + 2 * k))
def GI (g : Nat → Int32) (T : Nat) : Prop := gI g ∧ gT g T ∧ (0 ≤ (g 13).toInt ∧ (g 13).toInt ≤ 6) ∧ (∀ j, j < 10 → -1 ≤ (g (124 + j)).toInt ∧ (g (124 + j)).toInt ≤ 11) ∧ pI g ∧ (∀ i, i < 40 → 0 ≤ (g (45 + 2 * i)).toInt ∧ (g (45 + 2 * i)).toInt ≤ 600)
def Inv (v : xV) (T : Nat) : Prop := GI (v 0) T ∧ (v 4 0 = 0 ∨ (v 4 0 = 1 ∧ GI (v 1) T)) ∧ (0 ≤ (v 4 1).toInt ∧ (v 4 1).toInt ≤ 100) ∧ (∀ s, s < 4 → v 5 s = 0 ∨ v 5 s = 8 ∨ v 5 s = 16 ∨ v 5 s = 32) ∧ (∀ s, s < 4 → 0 ≤ (v 6 s).toInt ∧ (v 6 s).toInt ≤ 40)
theorem Inv.g {v : xV} {T : Nat} (h : Inv v T) : gI (v 0) := h.1.1
theorem Inv.t {v : xV} {T : Nat} (h : Inv v T) : gT (v 0) T := h.1.2.1
theorem Inv.h0 {v : xV} {T : Nat} (h : Inv v T) : 0 ≤ (v 0 10).toInt := h.1.2.1.1
/-! an operation: its answer and the view behind it; the other view stays -/
def cpost (sp : Int32 × xV) (σ : xV) : Int32 → xV → Prop := fun r σ' => r = sp.1 ∧ cv σ' = sp.2 ∧ mv σ' = mv σ ∧ σ' 15 = σ 15
def mpost (sp : Int32 × xV) (σ : xV) : Int32 → xV → Prop := fun r σ' => r = sp.1 ∧ mv σ' = sp.2 ∧ cv σ' = cv σ ∧ σ' 15 = σ 15
theorem cpost_of {sp : Int32 × xV} {σ σ' : xV} {r : Int32} {V : xV} (h : sp = (r, V)) (hc : cv σ' = V) (hm : mv σ' = mv σ) (hl : σ' 15 = σ 15) : cpost sp σ r σ' := by
  subst h
  exact ⟨rfl, hc, hm, hl⟩
theorem mpost_of {sp : Int32 × xV} {σ σ' : xV} {r : Int32} {V : xV} (h : sp = (r, V)) (hm : mv σ' = V) (hc : cv σ' = cv σ) (hl : σ' 15 = σ 15) : mpost sp σ r σ' := by
  subst h
  exact ⟨rfl, hm, hc, hl⟩
def xOi (l : Launch) (y : MethodName) (cc : ByteArray) (mL : Nat) (rt : FieldType) (fr lo : Nat) (E : xE) (av : List Value) (σ : xV) (τ : Nat → Int64) (post : Int32 → xV → Prop) : Prop := Met l y (Cond.code y cc mL (some rt) :: xT) { frames := fr, cells := 0, slots := 0, locals := lo } (va_Pc av (xG E σ τ)) (va_Qi (fun r (u : xV × (Nat → Int64)) => post r u.1) (fun u t => xP E u.1 u.2 t.heap) (xA E)) 0 0 (xA E)
section XOPS
variable {p : Program} {l : Launch} {e : Env} {R : Room} {s : State} {m : MethodId} {args : Array Value} {below : List Frame} {meth : Method} {c : Code} {cells slots : Nat} {Q : State → Prop} {E : xE} {A : Nat → Prop} {nL : Nat} {σ σ' : Nat → Nat → Int32} {τ τ' : Nat → Int64} {pc : Nat} {lv : List (Nat × Value)} {rest : List Value} {cc : ByteArray} {own : String} {ret : Option FieldType}
theorem xOi_of {y : MethodName} {mL : Nat} {fr lo : Nat} {av : List Value} {rt : FieldType} {post : Int32 → xV → Prop} (hy : plainFor y = true) (ho : y.cls = own) (hav : (lg_sl av).length ≤ mL) (body : ∀ (p : Program) (e : Env) (s : State) (m : MethodId) (args : Array Value) (below : List Frame) (meth : Method) (c : Code), xC p s m args meth c cc mL own (some rt) E (xA E) { frames := fr, cells := 0, slots := 0, locals := lo } 0 0 → WM p l e { frames := fr, cells := 0, slots := 0, locals := lo } s m args below meth c 0 0 (MQ below (va_Qi (fun r (u : xV × (Nat → Int64)) => post r u.1) (fun u t => xP E u.1 u.2 t.heap) (xA E)) args s 0 0 (xA E)) E (xA E) mL σ τ 0 (lv_args 0 av) []) : xOi l y cc mL rt fr lo E av σ τ post := by
  refine va_MetF (cc := cc) (maxL := mL) (ret := some rt) hy rfl ?_
  intro p e s m args below meth c s₁ B hml hv
  obtain ⟨rfl, hP, hK, hI, hZ⟩ := hv
  have hown : s.vm.findClass own = some m.cls := by rw [← ho]; exact findClass_of_methodNamed B.named
  have hts := atoms_spec (ws := Cond.code y cc mL (some rt) :: xT) B.pre
  have h := body p e s m av.toArray below meth c ⟨⟨B.exec, B.bytes, hml, hown, fun w hw => hts w (List.mem_cons_of_mem _ hw)⟩, B.returns, B.notSynchronized, hK, hI, hZ, Nat.zero_le _, Nat.zero_le _⟩
  rw [lg_entry_eq]
  exact h s.heap [] _ hP va_S.rf (lv_entry av hav)
theorem x_oret (C : xC p s m args meth c cc nL own (some .int) E (xA E) R 0 0) {v : Int32} {post : Int32 → xV → Prop} (hp : post v σ) (hdg : decode cc pc = .ok (.ireturn, 1)) : WM p l e R s m args below meth c 0 0 (MQ below (va_Qi (fun r (u : xV × (Nat → Int64)) => post r u.1) (fun u t => xP E u.1 u.2 t.heap) (xA E)) args s 0 0 (xA E)) E (xA E) nL σ τ pc lv [.int v] := by
  intro H locs ls hP hS hl
  exact W.iret C.hx C.hb C.hr (fun t ht hW => ⟨⟨v, (σ, τ), rfl, hp, by show xP E σ τ t.heap; rw [ht]; exact hP⟩, hS.F ht⟩) hS.2.2 hdg C.hlk
theorem x_callVo (C : xC p s m args meth c cc nL own ret E A R cells slots) {b index mL fr lo n : Nat} {Cn : String} {y : MethodName} {bytes : ByteArray} {As st : List Value} {rt : FieldType} {post : Int32 → xV → Prop} (hM : xOi l y bytes mL rt fr lo E (.ref b :: As) σ τ post) (hL : xLV own index Cn y bytes mL (some rt) n) (hr : ∀ H : Heap, xP E σ τ H → ∃ cell : Cell, H[b]? = some cell ∧ cell.vm.isStatics = false ∧ s.vm.findClass Cn = some cell.cls) (hR : fr + 1 ≤ R.frames ∧ 8 + (mL + 11) + lo ≤ R.locals) (hn : As.length = n) (hst : st = As.reverse ++ .ref b :: rest) (hrm : (rest.map fun v => v.category).sum ≤ 8) (hdg : decode cc pc = .ok (.invokevirtual index, 3)) (kk : ∀ (r : Int32) (σ' : xV) (τ' : Nat → Int64), post r σ' → WM p l e R s m args below meth c cells slots Q E A nL σ' τ' (pc + 3) lv (.int r :: rest)) : WM p l e R s m args below meth c cells slots Q E A nL σ τ pc lv st := by
  subst hst
  obtain ⟨h1, h2, h3, h4, h5, h6, h7, h8, h9⟩ := hL
  intro H locs ls hP hS hl
  have hAA : ∀ q, xA E q → A q := C.hI.sub
  exact va_calli (va_runV (As := As) (rest := rest) C.1 hM (cwV n C.hts (xgi4 h1 h2 h3 h4 (xGood h5)) rfl rfl rfl ⟨h6, h7, h8, h9⟩ hR) ⟨xG.blind, hr H hP, fun U hU hW => ⟨rfl, by rw [hU]; exact hP, va_K.moved hW.alike C.hK, C.hI.self, C.hZ.go (H := U.heap) (by rw [hU]; exact hS) hW C.hI.sub⟩⟩ rfl hn hl.1 rfl (lv_room hrm) hdg C.hc) hS (fun q _ h => hAA q h) hAA (fun r u t H1 locs1 ht hvm hw hB hz hk1 hS1 => by
    rw [ht] at hB
    exact kk r u.1 u.2 hw H1 locs1 ls hB hS1 hl)
end XOPS
/-! findings: BEYOND, FULL, KIND, NONE, MISSING, SIZE -/
def bad (s : xV) : Int32 × xV := (-1000001, u2 s 2 0 (s 2 0 + 1))
def full (s : xV) : Int32 × xV := (-1000002, u2 s 2 1 (s 2 1 + 1))
def kindF (s : xV) : Int32 × xV := (-1000003, u2 s 2 2 (s 2 2 + 1))
def noneF (s : xV) : Int32 × xV := (-1000004, u2 s 2 3 (s 2 3 + 1))
def miss (s : xV) : Int32 × xV := (-1000006, u2 s 2 5 (s 2 5 + 1))
def sizeF (s : xV) : Int32 × xV := (-1000007, u2 s 2 6 (s 2 6 + 1))
theorem tl_0 : ((0 : Int32)).toInt = 0 := by decide
theorem tl_1 : ((1 : Int32)).toInt = 1 := by decide
theorem tl_2 : ((2 : Int32)).toInt = 2 := by decide
theorem tl_3 : ((3 : Int32)).toInt = 3 := by decide
theorem tl_4 : ((4 : Int32)).toInt = 4 := by decide
theorem tl_5 : ((5 : Int32)).toInt = 5 := by decide
theorem tl_6 : ((6 : Int32)).toInt = 6 := by decide
theorem tl_7 : ((7 : Int32)).toInt = 7 := by decide
theorem tl_8 : ((8 : Int32)).toInt = 8 := by decide
theorem tl_9 : ((9 : Int32)).toInt = 9 := by decide
theorem tl_10 : ((10 : Int32)).toInt = 10 := by decide
theorem tl_11 : ((11 : Int32)).toInt = 11 := by decide
theorem tl_12 : ((12 : Int32)).toInt = 12 := by decide
theorem tl_13 : ((13 : Int32)).toInt = 13 := by decide
theorem tl_16 : ((16 : Int32)).toInt = 16 := by decide
theorem tl_20 : ((20 : Int32)).toInt = 20 := by decide
theorem tl_24 : ((24 : Int32)).toInt = 24 := by decide
theorem tl_32 : ((32 : Int32)).toInt = 32 := by decide
theorem tl_39 : ((39 : Int32)).toInt = 39 := by decide
theorem tl_40 : ((40 : Int32)).toInt = 40 := by decide
theorem tl_48 : ((48 : Int32)).toInt = 48 := by decide
theorem tl_50 : ((50 : Int32)).toInt = 50 := by decide
theorem tl_57 : ((57 : Int32)).toInt = 57 := by decide
theorem tl_59 : ((59 : Int32)).toInt = 59 := by decide
theorem tl_97 : ((97 : Int32)).toInt = 97 := by decide
theorem tl_99 : ((99 : Int32)).toInt = 99 := by decide
theorem tl_100 : ((100 : Int32)).toInt = 100 := by decide
theorem tl_122 : ((122 : Int32)).toInt = 122 := by decide
theorem tl_127 : ((127 : Int32)).toInt = 127 := by decide
theorem tl_200 : ((200 : Int32)).toInt = 200 := by decide
theorem tl_255 : ((255 : Int32)).toInt = 255 := by decide
theorem tl_284 : ((284 : Int32)).toInt = 284 := by decide
theorem tl_400 : ((400 : Int32)).toInt = 400 := by decide
theorem tl_500 : ((500 : Int32)).toInt = 500 := by decide
theorem tl_600 : ((600 : Int32)).toInt = 600 := by decide
theorem tl_999 : ((999 : Int32)).toInt = 999 := by decide
theorem tl_1000 : ((1000 : Int32)).toInt = 1000 := by decide
theorem tl_1199 : ((1199 : Int32)).toInt = 1199 := by decide
theorem tl_1200 : ((1200 : Int32)).toInt = 1200 := by decide
theorem tl_2800 : ((2800 : Int32)).toInt = 2800 := by decide
theorem tl_9999 : ((9999 : Int32)).toInt = 9999 := by decide
theorem tl_99999 : ((99999 : Int32)).toInt = 99999 := by decide
theorem tn_1 : ((-1 : Int32)).toInt = -1 := by decide
theorem tn_10 : ((-10 : Int32)).toInt = -10 := by decide
theorem tn_50 : ((-50 : Int32)).toInt = -50 := by decide
theorem tn_200 : ((-200 : Int32)).toInt = -200 := by decide
theorem tn_600 : ((-600 : Int32)).toInt = -600 := by decide
theorem tn_999 : ((-999 : Int32)).toInt = -999 := by decide
