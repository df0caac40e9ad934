/-! villages in an array -/
def wVs (g : kw_G) (ad : Nat → Nat → Nat) (vs : Nat → VS) (is : List Nat) : va_W := (is.map (fun i => wV g (ad i) (vs i))).flatten
theorem wVs_open (g : kw_G) (ad : Nat → Nat → Nat) (vs : Nat → VS) {is : List Nat} {t : Nat} (h : t ∈ is) : (wVs g ad vs is).Perm (wV g (ad t) (vs t) ++ wVs g ad vs (is.erase t)) := by
  have h1 := (List.perm_cons_erase h).map (fun i => wV g (ad i) (vs i))
  exact h1.flatten
theorem wVs_up (g : kw_G) (ad : Nat → Nat → Nat) (vs : Nat → VS) (w : VS) {is : List Nat} {t : Nat} (h : t ∉ is) : wVs g ad (va_up vs t w) is = wVs g ad vs is := by
  unfold wVs
  congr 1
  apply List.map_congr_left
  intro i hi
  rw [va_up_ne]
  intro q
  exact h (q ▸ hi)
theorem wVs_close (g : kw_G) (ad : Nat → Nat → Nat) (vs : Nat → VS) (w : VS) {is : List Nat} {t : Nat} (hn : is.Nodup) (h : t ∈ is) : (wV g (ad t) w ++ wVs g ad vs (is.erase t)).Perm (wVs g ad (va_up vs t w) is) := by
  refine List.Perm.symm ((wVs_open g ad (va_up vs t w) h).trans ?_)
  rw [va_up_self, wVs_up]
  rw [hn.mem_erase_iff]
  exact fun q => q.1 rfl
theorem va_up_same {α : Type} (f : Nat → α) (k : Nat) : va_up f k (f k) = f := by
  funext j
  by_cases h : j = k
  · subst h; rw [va_up_self]
  · rw [va_up_ne _ _ h]
/-- one block of a world opened into two, and back -/
theorem fl_open (P S : List va_W) {A B C : va_W} (h : A.Perm (B ++ C)) : (P ++ A :: S).flatten.Perm (P ++ B :: C :: S).flatten := by
  rw [List.flatten_append, List.flatten_append, List.flatten_cons, List.flatten_cons, List.flatten_cons]
  refine List.Perm.append_left _ ?_
  rw [← List.append_assoc]
  exact List.Perm.append_right _ h
theorem fl_close (P S : List va_W) {A B C : va_W} (h : (B ++ C).Perm A) : (P ++ B :: C :: S).flatten.Perm (P ++ A :: S).flatten := (fl_open P S h.symm).symm
theorem mem_rg {t m : Nat} (h : t < m) : t ∈ List.range m := List.mem_range.mpr h
theorem nd_rg (m : Nat) : (List.range m).Nodup := List.nodup_range
/-! a pile -/
def wPh (g : kw_G) (a : Nat → Nat) (ad : Nat → Nat → Nat) (m sz tp : Nat) : va_W :=
  [(a 0, .inr (1, [.ref (a 1), .int (nI sz), .int (nI tp)])), (a 1, .inl (g.2 4, m, .inr (.inr (.inr (.inr (fun i => some (ad i 0)))))))]
theorem mn_nI {a b : Nat} (ha : a < 2147483648) (hb : b < 2147483648) : mn (nI a) (nI b) = nI (min a b) := by
  unfold mn
  by_cases h : b < a
  · rw [if_pos (nI_lt h ha), Nat.min_eq_right (by omega)]
  · rw [if_neg (nI_nlt (by omega) hb), Nat.min_eq_left (by omega)]
/-! what was seen -/
abbrev SS : Type := (Nat → Nat) × (Nat → Nat) × (Nat → Int32) × (Nat → Int32) × (Nat → Bool) × Nat
def sWho (s : SS) : Nat → Nat := s.1
def sWhose (s : SS) : Nat → Nat := s.2.1
def sBells (s : SS) : Nat → Int32 := s.2.2.1
def sCakes (s : SS) : Nat → Int32 := s.2.2.2.1
def sSo (s : SS) : Nat → Bool := s.2.2.2.2.1
def sSize (s : SS) : Nat := s.2.2.2.2.2
def sSz (s : SS) (k : Nat) : SS := (s.1, s.2.1, s.2.2.1, s.2.2.2.1, s.2.2.2.2.1, k)
def sAdd (s : SS) (i p : Nat) (b c : Int32) (w : Bool) : SS := (va_up s.1 (sSize s) i, va_up s.2.1 (sSize s) p, upd s.2.2.1 (sSize s) b, upd s.2.2.2.1 (sSize s) c, va_up s.2.2.2.2.1 (sSize s) w, sSize s + 1)
def wS (g : kw_G) (a : Nat → Nat) (s : SS) : va_W :=
  [(a 0, .inr (2, [.ref (a 1), .ref (a 2), .ref (a 3), .ref (a 4), .ref (a 5), .int (nI (sSize s))])), (a 1, .inl (g.2 0, 6, .inl (fun k => nI (sWho s k)))), (a 2, .inl (g.2 0, 6, .inl (fun k => nI (sWhose s k)))),
   (a 3, .inl (g.2 0, 6, .inl (sBells s))), (a 4, .inl (g.2 0, 6, .inl (sCakes s))), (a 5, .inl (g.2 3, 6, .inl (fun k => zI (sSo s k))))]
theorem upd_zI (f : Nat → Bool) (j : Nat) (c : Bool) : upd (fun k => zI (f k)) j (zI c) = fun k => zI (va_up f j c k) := by
  funext k
  by_cases h : k = j
  · subst h; simp [upd, va_up]
  · simp [upd, va_up, h]
def SSI (s : SS) : Prop := sSize s ≤ 6 ∧ ∀ k, k < sSize s → sWho s k < 6 ∧ sWhose s k < 6
def sIs (s : SS) (v : VS) (k : Nat) (kd tie : Int32) : Bool := sSo s k == wCome v (sWho s k) kd tie (sWhose s k) (sBells s k) (sCakes s k)
def sTf (s : SS) (v : VS) (i p : Nat) (tie : Int32) : Nat → Bool
  | 0 => true
  | k + 1 => sTf s v i p tie k && !(decide (sWho s k = i) && (decide (sWhose s k = p) && !sIs s v k (vK v i) tie))
def sKf (s : SS) (v : VS) (i : Nat) (kd : Int32) : Nat → Bool
  | 0 => true
  | k + 1 => sKf s v i kd k && !(decide (sWho s k = i) && !sIs s v k kd (vT v (i * 6 + sWhose s k)))
def sTb (s : SS) (v : VS) (i p : Nat) : Nat → Nat
  | 0 => 0
  | t + 1 => sTb s v i p t + (if sTf s v i p (nI t - 4) (sSize s) = true then 2 ^ t else 0)
def sKb (s : SS) (v : VS) (i : Nat) : Nat → Nat
  | 0 => 0
  | t + 1 => sKb s v i t + (if sKf s v i (nI t) (sSize s) = true then 2 ^ t else 0)
theorem sTb_lt (s : SS) (v : VS) (i p : Nat) : ∀ t, sTb s v i p t < 2 ^ t
  | 0 => Nat.one_pos
  | t + 1 => by
    have h := sTb_lt s v i p t
    rw [sTb, Nat.pow_succ]
    split <;> omega
theorem sKb_lt (s : SS) (v : VS) (i : Nat) : ∀ t, sKb s v i t < 2 ^ t
  | 0 => Nat.one_pos
  | t + 1 => by
    have h := sKb_lt s v i t
    rw [sKb, Nat.pow_succ]
    split <;> omega
theorem sTf_no {s : SS} {v : VS} {i p : Nat} {tie : Int32} {k N : Nat} (hk : k < N) (h1 : sWho s k = i) (h2 : sWhose s k = p) (h3 : sIs s v k (vK v i) tie = false) : sTf s v i p tie N = false := by
  induction N with
  | zero => omega
  | succ N ih =>
    rw [sTf]
    rcases Nat.lt_or_ge k N with c | c
    · rw [ih c]; rfl
    · have : N = k := by omega
      subst this
      rw [h1, h2, h3]
      simp
theorem sKf_no {s : SS} {v : VS} {i : Nat} {kd : Int32} {k N : Nat} (hk : k < N) (h1 : sWho s k = i) (h3 : sIs s v k kd (vT v (i * 6 + sWhose s k)) = false) : sKf s v i kd N = false := by
  induction N with
  | zero => omega
  | succ N ih =>
    rw [sKf]
    rcases Nat.lt_or_ge k N with c | c
    · rw [ih c]; rfl
    · have : N = k := by omega
      subst this
      rw [h1, h3]
      simp
theorem gk_4 : ∀ k, k ≤ 10 → nI k - 4 + 4 = nI k := by decide +kernel
theorem zI_inj {a b : Bool} : zI a = zI b ↔ a = b := by cases a <;> cases b <;> decide
section KZ
variable {x : kw_X} {l : Launch} {g : kw_G} {own : String} {cc : ByteArray} {nL : Nat} {R : Room} {n k pc : Nat} {lv : List (Nat × Value)} {st : List Value} {ws : va_W}
theorem kz_icmp_ne (X : kX l g own cc nL R x) {a b : Bool} {z : Int} {tgt : Nat} (d : decode cc pc = .ok (.if_icmp .ne z, 3)) (ht : (pc : Int) + z = (tgt : Int)) (kt : ¬ a = b → kW x n k tgt lv st ws) (kf : a = b → kW x n k (pc + 3) lv st ws) : kW x n k pc lv (.int (zI b) :: .int (zI a) :: st) ws := kb_icmp_ne X d ht (fun q => kt (fun e => q (zI_inj.mpr e))) (fun q => kf (zI_inj.mp q))
end KZ
theorem kw_pk3 (L : List va_W) (i j k : Nat) (h : i < L.length) (h' : j < (L.eraseIdx i).length) (h'' : k < ((L.eraseIdx i).eraseIdx j).length) : L.flatten.Perm (((L[i] ++ (L.eraseIdx i)[j]) ++ ((L.eraseIdx i).eraseIdx j)[k]) ++ (((L.eraseIdx i).eraseIdx j).eraseIdx k).flatten) := by
  refine (kw_pk2 L i j h h').trans ?_
  rw [List.append_assoc (L[i] ++ (L.eraseIdx i)[j])]
  exact List.Perm.append_left _ (kw_pk _ k h'')
