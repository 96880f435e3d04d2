/-! ===== the checker ===== -/
def c1 (S : aS) (k : aE → aS → Bool) : Bool := match S.2.1 with
  | e :: r => k e (S.1, r, S.2.2)
  | [] => false
theorem c1_ok {S : aS} {k : aE → aS → Bool} (h : c1 S k = true) : ∃ e r, S.2.1 = e :: r ∧ k e (S.1, r, S.2.2) = true := by
  unfold c1 at h
  split at h
  · rename_i e r he
    exact ⟨e, r, he, h⟩
  · cases h
def lfind : List (Nat × aE) → Nat → (aE → Bool) → Bool
  | [], _, _ => false
  | q :: t, i, k => bif Nat.beq q.1 i then k q.2 else lfind t i k
theorem lfind_ok {i : Nat} {k : aE → Bool} : ∀ {al : List (Nat × aE)}, lfind al i k = true → ∃ e, (i, e) ∈ al ∧ k e = true
  | [], h => by cases h
  | q :: t, h => by
    unfold lfind at h
    cases hb : Nat.beq q.1 i with
    | true =>
      rw [hb] at h
      have e : q.1 = i := Nat.eq_of_beq_eq_true hb
      exact ⟨q.2, by rw [← e]; exact List.mem_cons_self, h⟩
    | false =>
      rw [hb] at h
      obtain ⟨e, h1, h2⟩ := lfind_ok h
      exact ⟨e, List.mem_cons_of_mem _ h1, h2⟩
def tag (e : aE) (t : Nat) : Bool := Nat.beq e.1.1 t
def push (e : aE) (S : aS) : aS := (S.1, e :: S.2.1, S.2.2)
def sgn (a : Nat) : Int := if a < 2147483648 then (a : Int) else (a : Int) - 4294967296
def vk (x : Int) : aV := (0, x, x, 0)
def nlong (s : List aE) : Nat := (s.map fun e => bif Nat.beq e.1.1 1 then 2 else 1).sum
def c2 (S : aS) (k : aE → aE → aS → Bool) : Bool := c1 S (fun y S => tag y 0 && c1 S (fun x S => tag x 0 && k x y S))
def rneg (r : Nat) : Nat := match r with
  | 0 => 1
  | 1 => 0
  | 2 => 3
  | 3 => 2
  | 4 => 5
  | _ => 4
def upto (f : Nat → Bool) (s : Nat) : Nat → Nat → Bool
  | i, 0 => f i
  | i, n + 1 => f i && upto f s (i + s) n
/-- all places of a row that an index may be -/
def rng (f : Nat → Bool) (a : aV) : Bool := decide (0 ≤ a.2.1) && (bif Nat.beq a.2.2.2 0 then f a.2.1.toNat else upto f a.2.2.2 a.2.1.toNat ((a.2.2.1 - a.2.1).toNat / a.2.2.2))
noncomputable def eget (t : Nat) (a : aV) : aV := bif Nat.beq t 32 then (bif rng (fun i => vsub' (fty 32 i) (fty 32 a.2.1.toNat)) a then fty 32 a.2.1.toNat else vtop) else fty t 0
noncomputable def egetok (t : Nat) (a : aV) : Bool := Nat.ble 33 t || (Nat.beq t 32 && rng (fun i => vsub' (fty 32 i) (eget 32 a)) a)
noncomputable def eputok (lv t : Nat) (a v : aV) : Bool := (Nat.ble 33 t && vsub' v (fty t 0) && !fz lv t 0) || (Nat.beq t 32 && rng (fun i => vsub' v (fty 32 i) && !fz lv 32 i) a)
def inb (a : aV) (n : Nat) : Bool := decide (0 ≤ a.2.1) && decide (a.2.2.1 < (n : Int))
noncomputable def orgA (t : Nat) (e : aE) : aG := match (tsh t).2.2 with
  | 0 => (0, 0, 0)
  | c + 1 => bif Nat.beq e.1.2.2.2 0 then (2, c, e.1.2.1.toNat) else bif Nat.beq e.2.1.1 1 then (3, c, e.2.1.2.1) else (0, 0, 0)
noncomputable def orgF (t i : Nat) : aG := match (tsh t).2.2 with
  | 0 => (0, 0, 0)
  | c + 1 => (2, c, i)
def ovq (o : aG) (ov : List aF) (a : aV) : aV := bif Nat.beq o.1 0 then a else ovm o ov a
noncomputable def learn (o : aG) (v : aV) (S : aS) : aS := bif Nat.beq o.1 2 then (S.1, S.2.1, (o, v.2.1, v.2.2.1) :: S.2.2) else S
def fitc (f : Nat) (a : aV) : Bool := match f with
  | 0 => Nat.beq a.1 0
  | 1 => Nat.beq a.1 1
  | 2 => Nat.beq a.1 0 && decide (0 ≤ a.2.1) && decide (a.2.2.1 ≤ 1)
  | _ => Nat.beq a.1 2
def amatch : List aE → List aV → Bool
  | [], [] => true
  | e :: s, a :: t => vsub' e.1 a && amatch s t
  | _, _ => false
def nthE : List aE → Nat → aE
  | [], _ => ePl vtop
  | e :: _, 0 => e
  | _ :: t, n + 1 => nthE t n
noncomputable def cfacts (md : List Nat) (ae : List aE) (fs : List (Int × Int × Nat × Int × Int)) : List aK := (fs.filter (fun f => !Nat.beq (nthE ae f.2.2.1).2.1.1 0 && !PM md (nthE ae f.2.2.1).2.1)).map (fun f => (f.1, f.2.1, ((nthE ae f.2.2.1).2.1, f.2.2.2.1, f.2.2.2.2)))
/-- what an answer says of an argument, and that of a place -/
noncomputable def kfacts (md : List Nat) (ae : List aE) : List (Int × Int × Nat × Int × Int) → List aK
  | [] => []
  | f :: t => (((nthE ae f.2.2.1).2.2.2.filter (fun q => Nat.beq (nthE ae f.2.2.1).1.1 0 && decide (q.1 ≤ f.2.2.2.1) && decide (f.2.2.2.2 ≤ q.2.1) && !PM md q.2.2.1)).map (fun q => (f.1, f.2.1, q.2.2))) ++ kfacts md ae t
def fcov (f : aF) (g : aF) : Bool := geq f.1 g.1 && decide (f.2.1 ≤ g.2.1) && decide (g.2.2 ≤ f.2.2)
/-- known of a place by one fact or two -/
def fcov2 (ov : List aF) (f : aF) : Bool := ov.any (fun g => geq f.1 g.1 && decide (f.2.1 ≤ g.2.1)) && ov.any (fun g => geq f.1 g.1 && decide (g.2.2 ≤ f.2.2))
theorem fcov2_ok {ls : PL} {H : PH} {ov : List aF} {f : aF} (h : fcov2 ov f = true) (hov : ∀ g ∈ ov, fok ls H g) : fok ls H f := by
  unfold fcov2 at h
  rw [Bool.and_eq_true, List.any_eq_true, List.any_eq_true] at h
  obtain ⟨⟨g1, h1, h2⟩, g2, h3, h4⟩ := h
  rw [Bool.and_eq_true, decide_eq_true_iff] at h2 h4
  intro x hx
  have a := hov g1 h1 x (by rw [← geq_ok h2.1]; exact hx)
  have b := hov g2 h3 x (by rw [← geq_ok h4.1]; exact hx)
  have := h2.2
  have := h4.2
  omega
theorem fok_nil {ls : PL} {H : PH} {f : aF} (h2 : f.1.1 = 2) (h : fok ls H f) : fok [] H f := by
  intro x hx
  refine h x ?_
  obtain ⟨⟨q1, q2, q3⟩, q4⟩ := f
  have h2 : q1 = 2 := h2
  subst h2
  exact hx
def isF2 (fs : List aF) : Bool := fs.all (fun f => Nat.beq f.1.1 2)
def isK2 (fs : List aK) : Bool := fs.all (fun f => Nat.beq f.2.2.1.1 2)
noncomputable def ccall1 (c : aC) (lv D : Nat) (md : List Nat) (m n : Nat) (S : aS) (k : aS → Bool) : Bool := Nat.beq c.1 m && Nat.ble (c.2.1 + 1) (D + 1) && Nat.ble n S.2.1.length && Nat.ble (nlong (S.2.1.drop n)) 8 && Nat.ble c.2.2.2.2.2.1 lv && c.2.2.2.2.2.2.1.all (covm md) && amatch (S.2.1.take n).reverse c.2.2.1 && c.2.2.2.2.2.2.2.1.all (fun f => Nat.beq f.1.1 2 && fcov2 S.2.2 f) && isK2 c.2.2.2.2.2.2.2.2.1 && isF2 c.2.2.2.2.2.2.2.2.2 && (fun T : aS => match c.2.2.2.1 with
    | none => k T
    | some a => k (push (a, (0, 0, 0), (0, 0), cfacts c.2.2.2.2.2.2.1 (S.2.1.take n).reverse c.2.2.2.2.1 ++ (kfacts c.2.2.2.2.2.2.1 (S.2.1.take n).reverse c.2.2.2.2.1 ++ c.2.2.2.2.2.2.2.2.1)) T)) ((kill (PM c.2.2.2.2.2.2.1) (S.1, S.2.1.drop n, S.2.2)).1, (kill (PM c.2.2.2.2.2.2.1) (S.1, S.2.1.drop n, S.2.2)).2.1, c.2.2.2.2.2.2.2.2.2 ++ (kill (PM c.2.2.2.2.2.2.1) (S.1, S.2.1.drop n, S.2.2)).2.2)
noncomputable def ccall (cs : Nat → List aC) (lv D : Nat) (md : List Nat) (p m n : Nat) (S : aS) (k : aS → Bool) : Bool := (cs p).any (fun c => ccall1 c lv D md m n S k)
def swt (op : Nat) : List Int := match op with
  | 100 => [205, 56, 75, 83, 104, 123, 134, 145, 156, 175, 186]
  | 101 => [40, 38, 36, 34]
  | 102 => [81, 59, 51, 55, 63, 75]
  | 103 => [189, 72, 80, 88, 99, 107, 115, 123, 131, 136, 144, 153, 163, 173, 181]
  | 104 => [63, 35, 40, 45, 53, 58]
  | 105 => [54, 31, 36, 41, 46]
  | 106 => [85, 35, 45, 55, 65, 75]
  | 107 => [141, 49, 59, 69, 79, 92, 102, 112, 122, 132]
  | 108 => [79, 39, 39, 49, 49, 61, 70]
  | 109 => [86, 59, 51, 55, 63, 75]
  | 110 => [168, 71, 78, 85, 92, 101, 108, 115, 122, 127, 132, 138, 145, 152, 160]
  | 111 => [85, 36, 46, 56, 65, 75]
  | 112 => [68, 32, 41, 50, 59]
  | 113 => [122, 47, 54, 61, 68, 74, 91, 108, 115]
  | _ => []
def pok_ (po ov : List aF) : Bool := po.all (fun f => Nat.beq f.1.1 2 && fcov2 ov f)
noncomputable def cI (cs : Nat → List aC) (Jt : Nat → aS → Bool) (rt : Option aV) (lv D : Nat) (md : List Nat) (po : List aF) (p op npc a1 a2 : Nat) (S : aS) (k : aS → Bool) : Bool := match op with
  | 0 => lfind S.1 a1 (fun e => tag e 2 && k (push (ePl e.1) S))
  | 1 => lfind S.1 a1 (fun e => tag e 0 && k (push (e.1, (1, a1, 0), e.2.2.1, e.2.2.2) S))
  | 2 => lfind S.1 a1 (fun e => tag e 1 && k (push (ePl e.1) S))
  | 3 => c1 S (fun e S => tag e 0 && k (setL a1 false (e.1, (0, 0, 0), e.2.2) S))
  | 4 => c1 S (fun e S => tag e 2 && k (setL a1 false (ePl e.1) S))
  | 5 => c1 S (fun e S => tag e 1 && k (setL a1 true (ePl e.1) S))
  | 6 => lfind S.1 a1 (fun e => tag e 0 && Nat.blt a2 4294967296 && (bif inr (e.1.2.1 + sgn a2) (e.1.2.2.1 + sgn a2) then k (setL a1 false ((0, e.1.2.1 + sgn a2, e.1.2.2.1 + sgn a2, e.1.2.2.2), (0, 0, 0), (e.2.2.1.1, e.2.2.1.2 + sgn a2), []) S) else k (setL a1 false (ePl vtop) S)))
  | 7 => Nat.blt a1 4294967296 && k (push (ePl (vk (sgn a1))) S)
  | 8 => Nat.blt a1 4294967296 && k (push (ePl (vk (sgn a1))) S)
  | 9 => Nat.blt a1 4294967296 && k (push (ePl (vk (sgn a1))) S)
  | 10 => Nat.blt a1 4294967296 && k (push (ePl (vk (sgn a1))) S)
  | 11 => Nat.blt a1 4294967296 && k (push (ePl (vk (sgn a1))) S)
  | 12 => Nat.blt a1 18446744073709551616 && k (push (ePl (bif Nat.beq a1 0 then (1, 2, 0, 0) else (1, 0, 0, 0))) S)
  | 13 => Nat.blt a1 18446744073709551616 && k (push (ePl (bif Nat.beq a1 0 then (1, 2, 0, 0) else (1, 0, 0, 0))) S)
  | 14 => c2 S (fun x y S => k (push (ePl (vadd x.1 y.1)) S))
  | 15 => c2 S (fun x y S => k (push (ePl (vsub x.1 y.1)) S))
  | 16 => c2 S (fun x y S => k (push (ePl (vmul x.1 y.1)) S))
  | 17 => c2 S (fun x y S => no0 y.1.2.1 y.1.2.2.1 && k (push (ePl (vdiv x.1 y.1)) S))
  | 18 => c2 S (fun x y S => no0 y.1.2.1 y.1.2.2.1 && k (push (ePl (vrem x.1 y.1)) S))
  | 19 => c2 S (fun x y S => k (push (ePl (vand x.1 y.1)) S))
  | 20 => c2 S (fun _ _ S => k (push (ePl vtop) S))
  | 21 => c2 S (fun _ _ S => k (push (ePl vtop) S))
  | 22 => c2 S (fun x y S => k (push (ePl (vshl x.1 y.1)) S))
  | 23 => c2 S (fun _ _ S => k (push (ePl vtop) S))
  | 24 => c2 S (fun _ _ S => k (push (ePl vtop) S))
  | 25 => c1 S (fun e S => tag e 0 && k (push (ePl vtop) S))
  | 26 => c1 S (fun e S => tag e 0 && k (push (ePl vtop) S))
  | 27 => c1 S (fun e S => tag e 0 && k (push (ePl (1, 0, 0, 0)) S))
  | 32 => c1 S (fun e S => tag e 1 && c1 S (fun e S => tag e 1 && k (push (ePl vtop) S)))
  | 33 => c1 S (fun e S => !tag e 1 && k (push e (push e S)))
  | 34 => c1 S (fun w S => c1 S (fun v S => !tag v 1 && !tag w 1 && k (push w (push v (push w (push v S))))))
  | 35 => c1 S (fun e S => !tag e 1 && k S)
  | 36 => !Nat.beq a1 npc && Jt a1 S
  | 37 => c1 S (fun e S => tag e 0 && !Nat.beq a1 npc && cbr 0 e (ePl (vk 0)) S (Jt a1) && cbr 1 e (ePl (vk 0)) S k)
  | 38 => c1 S (fun e S => tag e 0 && !Nat.beq a1 npc && cbr 1 e (ePl (vk 0)) S (Jt a1) && cbr 0 e (ePl (vk 0)) S k)
  | 39 => c1 S (fun e S => tag e 0 && !Nat.beq a1 npc && cbr 2 e (ePl (vk 0)) S (Jt a1) && cbr 3 e (ePl (vk 0)) S k)
  | 40 => c1 S (fun e S => tag e 0 && !Nat.beq a1 npc && cbr 3 e (ePl (vk 0)) S (Jt a1) && cbr 2 e (ePl (vk 0)) S k)
  | 41 => c1 S (fun e S => tag e 0 && !Nat.beq a1 npc && cbr 4 e (ePl (vk 0)) S (Jt a1) && cbr 5 e (ePl (vk 0)) S k)
  | 42 => c1 S (fun e S => tag e 0 && !Nat.beq a1 npc && cbr 5 e (ePl (vk 0)) S (Jt a1) && cbr 4 e (ePl (vk 0)) S k)
  | 43 => c2 S (fun x y S => !Nat.beq a1 npc && cbr 0 x y S (Jt a1) && cbr 1 x y S k)
  | 44 => c2 S (fun x y S => !Nat.beq a1 npc && cbr 1 x y S (Jt a1) && cbr 0 x y S k)
  | 45 => c2 S (fun x y S => !Nat.beq a1 npc && cbr 2 x y S (Jt a1) && cbr 3 x y S k)
  | 46 => c2 S (fun x y S => !Nat.beq a1 npc && cbr 3 x y S (Jt a1) && cbr 2 x y S k)
  | 47 => c2 S (fun x y S => !Nat.beq a1 npc && cbr 4 x y S (Jt a1) && cbr 5 x y S k)
  | 48 => c2 S (fun x y S => !Nat.beq a1 npc && cbr 5 x y S (Jt a1) && cbr 4 x y S k)
  | 49 => c1 S (fun e S => tag e 2 && Nat.beq (tsh e.1.2.2.2).1 a1 && Nat.blt a1 13 && Nat.blt a2 (tsh e.1.2.2.2).2.1 && Nat.beq (ztg a1 a2) (fty e.1.2.2.2 a2).1 && (bif Nat.beq (ztg a1 a2) 0 then k (push (ovq (orgF e.1.2.2.2 a2) S.2.2 (fty e.1.2.2.2 a2), orgF e.1.2.2.2 a2, (0, 0), []) S) else k (push (ePl (fty e.1.2.2.2 a2)) S)))
  | 50 => c1 S (fun v S => c1 S (fun e S => tag e 2 && Nat.beq (tsh e.1.2.2.2).1 a1 && Nat.blt a1 13 && Nat.blt (a2 % 64) (tsh e.1.2.2.2).2.1 && Nat.beq (ztg a1 (a2 % 64)) v.1.1 && (!Nat.beq (ztg a1 (a2 % 64)) 2 || mutref e.1.2.2.2 (a2 % 64)) && fitc (a2 / 64) v.1 && vsub' v.1 (fty e.1.2.2.2 (a2 % 64)) && !fz lv e.1.2.2.2 (a2 % 64) && inmd md e.1.2.2.2 (a2 % 64 : Nat) && k (bif tag v 0 then learn (orgF e.1.2.2.2 (a2 % 64)) v.1 (kill (PT e.1.2.2.2 (a2 % 64 : Nat) (a2 % 64 : Nat)) S) else kill (PT e.1.2.2.2 (a2 % 64 : Nat) (a2 % 64 : Nat)) S)))
  | 51 => c1 S (fun i S => tag i 0 && c1 S (fun e S => tag e 2 && Nat.beq (tsh e.1.2.2.2).1 16 && inb i.1 (tsh e.1.2.2.2).2.1 && egetok e.1.2.2.2 i.1 && Nat.beq (eget e.1.2.2.2 i.1).1 0 && k (push (ovq (orgA e.1.2.2.2 i) S.2.2 (eget e.1.2.2.2 i.1), orgA e.1.2.2.2 i, (0, 0), []) S)))
  | 52 => c1 S (fun v S => tag v 0 && c1 S (fun i S => tag i 0 && c1 S (fun e S => tag e 2 && Nat.beq (tsh e.1.2.2.2).1 16 && inb i.1 (tsh e.1.2.2.2).2.1 && eputok lv e.1.2.2.2 i.1 v.1 && inmdT md e.1.2.2.2 && k (learn (orgA e.1.2.2.2 i) v.1 (kill (PT e.1.2.2.2 i.1.2.1 i.1.2.2.1) S)))))
  | 53 => c1 S (fun i S => tag i 0 && c1 S (fun e S => tag e 2 && Nat.ble 19 (tsh e.1.2.2.2).1 && Nat.ble 33 e.1.2.2.2 && inb i.1 (tsh e.1.2.2.2).2.1 && Nat.beq (fty e.1.2.2.2 0).1 2 && k (push (ePl (fty e.1.2.2.2 0)) S)))
  | 54 => c1 S (fun e S => tag e 2 && Nat.ble 16 (tsh e.1.2.2.2).1 && k (push (ePl (vk ((tsh e.1.2.2.2).2.1 : Int))) S))
  | 55 => c2 S (fun x y S => Nat.ble (nlong S.2.1) 8 && k (push (ePl (vmax x.1 y.1)) S))
  | 56 => c2 S (fun x y S => Nat.ble (nlong S.2.1) 8 && k (push (ePl (vmin x.1 y.1)) S))
  | 57 => c1 S (fun i S => tag i 0 && c1 S (fun e S => tag e 2 && (Nat.beq (tsh e.1.2.2.2).1 17 || Nat.beq (tsh e.1.2.2.2).1 18) && Nat.ble 33 e.1.2.2.2 && inb i.1 (tsh e.1.2.2.2).2.1 && Nat.beq (fty e.1.2.2.2 0).1 0 && k (push (ePl (fty e.1.2.2.2 0)) S)))
  | 58 => c1 S (fun v S => tag v 0 && c1 S (fun i S => tag i 0 && c1 S (fun e S => tag e 2 && (Nat.beq (tsh e.1.2.2.2).1 17 || Nat.beq (tsh e.1.2.2.2).1 18) && inb i.1 (tsh e.1.2.2.2).2.1 && Nat.ble 33 e.1.2.2.2 && eputok lv e.1.2.2.2 i.1 vtop && inmdT md e.1.2.2.2 && k (kill (PT e.1.2.2.2 i.1.2.1 i.1.2.2.1) S))))
  | 59 => c1 S (fun v S => tag v 2 && c1 S (fun i S => tag i 0 && c1 S (fun e S => tag e 2 && Nat.beq e.1.2.2.2 37 && inb i.1 60 && Nat.beq v.1.2.2.2 5 && inmdT md e.1.2.2.2 && k (kill (PT 37 i.1.2.1 i.1.2.2.1) S))))
  | 66 => c1 S (fun e S => tag e 0 && inr e.1.2.1 e.1.2.2.1 && Nat.ble (nlong S.2.1) 8 && k (push (ePl vtop) S))
  | 60 => Nat.blt a1 511 && Nat.beq (a2 / 16) 0 && ccall cs lv D md p a1 a2 S k
  | 61 => Nat.blt a1 511 && Nat.ble 1 (a2 % 16) && (match (S.2.1.take (a2 % 16)).reverse with
    | e :: _ => tag e 2 && Nat.beq ((tsh e.1.2.2.2).1 + 1) (a2 / 16)
    | [] => false) && ccall cs lv D md p a1 (a2 % 16) S k
  | 62 => c1 S (fun e S => tag e 0 && S.2.1.isEmpty && pok_ po S.2.2 && (Nat.beq a1 0 || (Nat.beq a1 2 && fitc 2 e.1)) && (match rt with
    | some a => vsub' e.1 a
    | none => false))
  | 63 => c1 S (fun e S => tag e 2 && S.2.1.isEmpty && pok_ po S.2.2 && (match rt with
    | some a => vsub' e.1 a
    | none => false))
  | 64 => c1 S (fun e S => tag e 1 && S.2.1.isEmpty && pok_ po S.2.2 && (match rt with
    | some a => vsub' e.1 a
    | none => false))
  | 65 => S.2.1.isEmpty && pok_ po S.2.2 && (match rt with
    | some _ => false
    | none => true)
  | op => bif Nat.ble 100 op && Nat.ble op 113 then c1 S (fun e S => tag e 0 && (swt op).all (fun d => decide (0 ≤ (p : Int) + d) && (bif Nat.beq ((p : Int) + d).toNat npc then k S else Jt ((p : Int) + d).toNat S))) else false
noncomputable def cB (cs : Nat → List aC) (Jt : Nat → aS → Bool) (rt : Option aV) (lv D : Nat) (md : List Nat) (po : List aF) (nx : Option Nat) : List VE → Nat → aS → Bool
  | [], pc, S => (match nx with
    | some t => Nat.beq t pc && Jt t S
    | none => false)
  | e :: t, pc, S => Nat.beq e.1 pc && cI cs Jt rt lv D md po e.1 e.2.1 e.2.2.1 e.2.2.2.1 e.2.2.2.2 S (cB cs Jt rt lv D md po nx t e.2.2.1)
