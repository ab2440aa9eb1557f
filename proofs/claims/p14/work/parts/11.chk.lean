section
/-! ===== a check of rows by ranges: what is known of numbers and cells at each place ===== -/
abbrev cw_W : Type := Int × Int × Nat
abbrev cw_A : Type := cw_W ⊕ (cw_W ⊕ Nat)
abbrev cw_U : Type := Nat × Nat
abbrev cw_P : Type := Option ((cw_U × Int) ⊕ ((cw_U × Int) ⊕ List (cw_U × cw_A)))
abbrev cw_E : Type := List (cw_U × cw_A × Option Int)
abbrev cw_Z : Type := List (cw_A × cw_P)
/-- kinds of cells: a row of ints (kind, length, period, ranges), of longs, of references (kind, length, of which), an object -/
abbrev cw_D : Type := (Nat × Nat × Nat × List (Int × Int)) ⊕ (Nat ⊕ ((Nat × Nat × Nat) ⊕ (Nat × List cw_A)))
abbrev cw_int (w : cw_W) : cw_A := .inl w
abbrev cw_lng (w : cw_W) : cw_A := .inr (.inl w)
abbrev cw_rf (d : Nat) : cw_A := .inr (.inr d)
def cw_le (a b : Int) : Bool := decide (a ≤ b)
def cw_mn (a b : Int) : Int := bif cw_le a b then a else b
def cw_mx (a b : Int) : Int := bif cw_le a b then b else a
def cw_top : cw_W := (-2147483648, 2147483647, 0)
def cw_topL : cw_W := (-9223372036854775808, 9223372036854775807, 0)
def cw_wr (lo hi : Int) (t : Nat) : cw_W := bif cw_le (-2147483648) lo && cw_le hi 2147483647 then (lo, hi, t) else cw_top
def cw_wrL (lo hi : Int) : cw_W := bif cw_le (-9223372036854775808) lo && cw_le hi 9223372036854775807 then (lo, hi, 0) else cw_topL
def cw_nz (w : cw_W) : Bool := cw_le 1 w.1 || (cw_le w.2.1 (-1) || w.2.2 == 1)
def cw_cst (w : cw_W) : Bool := decide (w.1 = w.2.1)
/-- of a number that is r modulo m: 16 + 64 m + r -/
def cw_md (t : Nat) : Nat := (t - 16) / 64
def cw_rs (t : Nat) : Nat := (t - 16) % 64
def cw_mok (t : Nat) : Bool := Nat.ble 16 t && (Nat.ble 1 (cw_md t) && Nat.ble (cw_md t) 63)
def cw_tadd (x y : cw_W) : Nat :=
  bif cw_cst y && (cw_le 0 y.1 && cw_mok x.2.2) then 16 + 64 * cw_md x.2.2 + (cw_rs x.2.2 + y.1.toNat) % cw_md x.2.2
  else bif cw_cst x && (cw_le 0 x.1 && cw_mok y.2.2) then 16 + 64 * cw_md y.2.2 + (cw_rs y.2.2 + x.1.toNat) % cw_md y.2.2 else 0
def cw_tmul (x y : cw_W) : Nat :=
  bif cw_cst y && (cw_le 2 y.1 && cw_le y.1 63) then 16 + 64 * y.1.toNat
  else bif cw_cst x && (cw_le 2 x.1 && cw_le x.1 63) then 16 + 64 * x.1.toNat else 0
def cw_bin (q : Instr) (x y : cw_W) : Option cw_W := match q with
  | .iadd => some (cw_wr (x.1 + y.1) (x.2.1 + y.2.1) (cw_tadd x y))
  | .isub => some (cw_wr (x.1 - y.2.1) (x.2.1 - y.1) 0)
  | .imul => some (bif cw_le 0 x.1 && cw_le 0 y.1 then cw_wr (x.1 * y.1) (x.2.1 * y.2.1) (cw_tmul x y) else cw_top)
  | .iand => some (bif cw_le 0 y.1 then (0, y.2.1, 0) else bif cw_le 0 x.1 then (0, x.2.1, 0) else cw_top)
  | .ior => some cw_top
  | .ishl => some cw_top
  | .ishr => some cw_top
  | .iushr => some cw_top
  | .idiv => bif cw_nz y then some (bif cw_le 1 y.1 && cw_le 0 x.1 then (0, x.2.1 / y.1, 0) else cw_top) else none
  | .irem => bif cw_le 1 y.1 && cw_le 0 x.1 then some (0, y.2.1 - 1, 0) else none
  | _ => none
def cw_binL (q : Instr) (x y : cw_W) : Option cw_W := match q with
  | .ladd => some cw_topL
  | .lsub => some cw_topL
  | .lmul => some (bif cw_le 0 x.1 && cw_le 0 y.1 then cw_wrL (x.1 * y.1) (x.2.1 * y.2.1) else cw_topL)
  | .land => some cw_topL
  | .ldiv => bif cw_nz y then some cw_topL else none
  | .lrem => bif cw_nz y then some cw_topL else none
  | _ => none
/-- a number moved by what is known: the same variable still -/
def cw_binP (q : Instr) (x : cw_W) (p : cw_P) (y : cw_W) : cw_P := match q, p with
  | .iadd, some (.inl (u, d)) => bif cw_cst y && (cw_le (-2147483648) (x.1 + y.1) && cw_le (x.2.1 + y.2.1) 2147483647) then some (.inl (u, d + y.1)) else none
  | .isub, some (.inl (u, d)) => bif cw_cst y && (cw_le (-2147483648) (x.1 - y.2.1) && cw_le (x.2.1 - y.1) 2147483647) then some (.inl (u, d - y.1)) else none
  | _, _ => none
def cw_push (q : cv_Q) : Option cw_A := match q.2.1 with
  | .iconst n => some (cw_int ((Int32.ofInt n).toInt, (Int32.ofInt n).toInt, 0))
  | .bipush n => some (cw_int ((Int8.ofInt n).toInt32.toInt, (Int8.ofInt n).toInt32.toInt, 0))
  | .sipush n => some (cw_int ((Int16.ofInt n).toInt32.toInt, (Int16.ofInt n).toInt32.toInt, 0))
  | .ldc _ => bif q.2.2.2.1 == 0 then some (cw_int ((Int32.ofInt q.2.2.2.2.2).toInt, (Int32.ofInt q.2.2.2.2.2).toInt, 0)) else none
  | .ldc_w _ => some (cw_int ((Int32.ofInt q.2.2.2.2.2).toInt, (Int32.ofInt q.2.2.2.2.2).toInt, 0))
  | .ldc2_w _ => some (cw_lng ((Int64.ofInt q.2.2.2.2.2).toInt, (Int64.ofInt q.2.2.2.2.2).toInt, 0))
  | .lconst k => some (cw_lng ((Int64.ofNat k.val).toInt, (Int64.ofNat k.val).toInt, 0))
  | .getstatic _ => match q.2.2.2.1 with
    | 4 => some (cw_rf 1004)
    | 5 => some (cw_rf 1005)
    | _ => none
  | _ => none
/-- what both are if the comparison holds; none: it can't hold -/
def cw_ok2 (x y : cw_W) : Option (cw_W × cw_W) := bif cw_le x.1 x.2.1 && cw_le y.1 y.2.1 then some (x, y) else none
def cw_lt (x y : cw_W) : Option (cw_W × cw_W) := cw_ok2 (x.1, cw_mn x.2.1 (y.2.1 - 1), bif y.2.2 == 3 && cw_le 0 x.1 then 2 else x.2.2) (cw_mx y.1 (x.1 + 1), y.2.1, y.2.2)
def cw_lq (x y : cw_W) : Option (cw_W × cw_W) := cw_ok2 (x.1, cw_mn x.2.1 y.2.1, x.2.2) (cw_mx y.1 x.1, y.2.1, y.2.2)
def cw_sw (r : Option (cw_W × cw_W)) : Option (cw_W × cw_W) := match r with
  | some (x, y) => some (y, x)
  | none => none
def cw_cond (c : Jvm.ClassFile.Cond) (x y : cw_W) : Option (cw_W × cw_W) := match c with
  | .lt => cw_lt x y
  | .le => cw_lq x y
  | .gt => cw_sw (cw_lt y x)
  | .ge => cw_sw (cw_lq y x)
  | .eq => cw_ok2 (cw_mx x.1 y.1, cw_mn x.2.1 y.2.1, x.2.2) (cw_mx x.1 y.1, cw_mn x.2.1 y.2.1, y.2.2)
  | .ne => bif cw_cst y then cw_ok2 ((bif decide (x.1 = y.1) then x.1 + 1 else x.1), (bif decide (x.2.1 = y.1) then x.2.1 - 1 else x.2.1), (bif x.2.2 == 0 && decide (y.1 = 0) then 1 else x.2.2)) y else some (x, y)
def cw_neg (c : Jvm.ClassFile.Cond) : Jvm.ClassFile.Cond := match c with
  | .lt => .ge
  | .le => .gt
  | .gt => .le
  | .ge => .lt
  | .eq => .ne
  | .ne => .eq
def cw_ueq (a b : cw_U) : Bool := a.1 == b.1 && a.2 == b.2
def cw_get (e : cw_E) (u : cw_U) : Option (cw_A × Option Int) := (e.find? (fun q => cw_ueq q.1 u)).map Prod.snd
def cw_meet (a b : cw_A) : cw_A := match a, b with
  | .inl x, .inl y => .inl (cw_mx x.1 y.1, cw_mn x.2.1 y.2.1, bif y.2.2 == 0 then x.2.2 else y.2.2)
  | .inr (.inl x), .inr (.inl y) => .inr (.inl (cw_mx x.1 y.1, cw_mn x.2.1 y.2.1, bif y.2.2 == 0 then x.2.2 else y.2.2))
  | a, _ => a
/-- more is known of a variable -/
def cw_put (e : cw_E) (u : cw_U) (a : cw_A) : cw_E := match cw_get e u with
  | some (a0, o) => (u, cw_meet a0 a, o) :: e.filter (fun q => !cw_ueq q.1 u)
  | none => (u, a, none) :: e
def cw_puts (e : cw_E) (l : List (cw_U × cw_A)) : cw_E := l.foldl (fun e q => cw_put e q.1 q.2) e
def cw_rfn (e : cw_E) (p : cw_P) (w : cw_W) : cw_E := match p with
  | some (.inl (u, d)) => cw_put e u (cw_int (w.1 - d, w.2.1 - d, bif decide (d = 0) then w.2.2 else 0))
  | some (.inr (.inr l)) => bif cw_nz w then cw_puts e l else e
  | _ => e
def cw_isL : cw_A → Bool
  | .inr (.inl _) => true
  | _ => false
def cw_pm (f : cw_U → Bool) (p : cw_P) : Bool := match p with
  | none => false
  | some (.inl (u, _)) => f u
  | some (.inr (.inl (u, _))) => f u
  | some (.inr (.inr l)) => l.any (fun q => f q.1)
def cw_clr (f : cw_U → Bool) (z : cw_Z) : cw_Z := z.map (fun q => (q.1, bif cw_pm f q.2 then none else q.2))
def cw_st (e : cw_E) (i : Nat) (a : cw_A) (o : Option Int) : cw_E := ((i, 0), a, o) :: e.filter (fun q => !(q.1.1 == i) && !(q.1.1 + 1 == i && cw_isL q.2.1))
def cw_stL (e : cw_E) (i : Nat) (a : cw_A) : cw_E := ((i, 0), a, none) :: e.filter (fun q => !(q.1.1 == i) && (!(q.1.1 == i + 1) && !(q.1.1 + 1 == i && cw_isL q.2.1)))
/-- the start's number of a variable moved on -/
def cw_org (e : cw_E) (u : cw_U) (p : cw_P) : Option Int := match p with
  | some (.inl (v, d)) => bif cw_ueq v u then (match cw_get e u with
    | some (_, some o) => some (o + d)
    | _ => none) else none
  | _ => none
def cw_kd (k : Nat) (a : cw_A) : Bool := match k, a with
  | 1, .inl _ => true
  | 2, .inr (.inr _) => true
  | 3, .inr (.inl _) => true
  | _, _ => false
def cw_dok : cw_A → Bool
  | .inr (.inr d) => Nat.ble d 999
  | _ => true
/-- slots that may be written: place 80 d + s -/
def cw_bit (m : Nat) (d s : Nat) : Bool := Nat.testBit m (80 * d + s)
def cw_in (w : cw_W) (r : Int × Int) : Bool := cw_le r.1 w.1 && cw_le w.2.1 r.2
/-- the ranges of a row that an index may meet, and the slot's number -/
def cw_sel (p : Nat) (rs : List (Int × Int)) (w : cw_W) : List (Int × Int) × Nat :=
  bif Nat.ble 16 w.2.2 && (cw_md w.2.2 == p && Nat.ble 2 p) then (match rs[cw_rs w.2.2]? with
    | some r => ([r], 1 + cw_rs w.2.2)
    | none => (rs, 0)) else (rs, 0)
def cw_hull : List (Int × Int) → Int × Int
  | [] => (0, 0)
  | [r] => r
  | r :: l => (cw_mn r.1 (cw_hull l).1, cw_mx r.2 (cw_hull l).2)
def cw_ix (w : cw_W) (n : Nat) : Bool := cw_le 0 w.1 && cw_le (w.2.1 + 1) n
def cw_sub (a b : cw_A) : Bool := match a, b with
  | .inl x, .inl y => cw_le y.1 x.1 && (cw_le x.2.1 y.2.1 && (y.2.2 == 0 || (y.2.2 == x.2.2 || (y.2.2 == 1 && cw_nz x))))
  | .inr (.inl x), .inr (.inl y) => cw_le y.1 x.1 && (cw_le x.2.1 y.2.1 && (y.2.2 == 0 || (y.2.2 == x.2.2 || (y.2.2 == 1 && cw_nz x))))
  | .inr (.inr d), .inr (.inr d') => d == d'
  | _, _ => false
abbrev cw_R : Type := List (Option Nat × cw_E × cw_Z)
/-- a method's slots: what it may write; what no row but a named one may write -/
def cw_may (wm dp : Nat) (d s : Nat) : Bool := cw_bit wm d s && !cw_bit dp d s
/-- the variable that a field of what a variable holds is: two fields at most -/
def cw_upath (p : cw_P) (f : Nat) : Option cw_U := match p with
  | some (.inl ((i, c), d)) => bif decide (d = 0) && Nat.ble f 99 then (bif c == 0 then some (i, f) else bif Nat.ble c 99 then some (i, c + 100 * f) else none) else none
  | _ => none
def cw_uref (p : cw_P) : Option Nat := match p with
  | some (.inl ((i, 0), d)) => bif decide (d = 0) then some i else none
  | _ => none
def cw_has (c f : Nat) : Bool := c % 100 == f || c / 100 == f
/-- what stands in a switch: all its places -/
def cw_swt (pc : Nat) (offs : List Int) (e : cw_E) (z : cw_Z) : Option cw_R := match offs with
  | [] => some []
  | o :: l => bif cv_jmp pc o then (match cw_swt pc l e z with
    | some r => some ((some (cv_tgt pc o), e, z) :: r)
    | none => none) else none
/-- a comparison: where it goes on -/
def cw_br (pc : Nat) (off : Int) (t f : Option cw_E) (z : cw_Z) : Option cw_R :=
  bif cv_jmp pc off then some ((match t with
    | some e => [(some (cv_tgt pc off), e, z)]
    | none => []) ++ (match f with
    | some e => [(none, e, z)]
    | none => [])) else none
def cw_rf2 (e : cw_E) (c : Jvm.ClassFile.Cond) (x : cw_W) (p : cw_P) (y : cw_W) (p' : cw_P) : Option cw_E := match cw_cond c x y with
  | some (x', y') => some (cw_rfn (cw_rfn e p x') p' y')
  | none => none
/-- against 0: also what lcmp told -/
def cw_rf1 (e : cw_E) (c : Jvm.ClassFile.Cond) (x : cw_W) (p : cw_P) : Option cw_E := match p with
  | some (.inr (.inl (u, n))) => (match cw_get e u with
    | some (.inr (.inl w), _) => (match cw_cond c w (n, n, 0) with
      | some (w', _) => some (cw_put e u (cw_lng w'))
      | none => none)
    | _ => some e)
  | _ => match cw_cond c x (0, 0, 0) with
    | some (x', _) => some (cw_rfn e p x')
    | none => none
def cw_one (Ds : List cw_D) (wm dp : Nat) (q : cv_Q) (e : cw_E) (z : cw_Z) : Option cw_R :=
  match cw_push q with
  | some a => some [(none, e, (a, none) :: z)]
  | none =>
  match cv_load q.2.1 with
  | some (i, k) => match cw_get e (i, 0) with
    | some (a, _) => bif cw_kd k a then some [(none, e, (a, some (.inl ((i, 0), 0))) :: z)] else none
    | none => none
  | none =>
  match cv_store q.2.1 with
  | some (i, k) => match z with
    | (a, p) :: z => bif cw_kd k a && cw_dok a then
        (bif k == 3 then some [(none, cw_stL e i a, cw_clr (fun u => u.1 == i || (u.1 == i + 1 || u.1 + 1 == i)) z)]
          else some [(none, cw_st e i a (cw_org e (i, 0) p), cw_clr (fun u => u.1 == i || u.1 + 1 == i) z)]) else none
    | _ => none
  | none =>
  match q.2.1, z with
  | .iinc i n, z => match cw_get e (i, 0) with
    | some (.inl w, o) => let d := (Int32.ofInt n).toInt
      bif cw_le (-2147483648) (w.1 + d) && cw_le (w.2.1 + d) 2147483647 then
        some [(none, cw_st e i (cw_int (w.1 + d, w.2.1 + d, 0)) (o.map (· + d)), cw_clr (fun u => u.1 == i || u.1 + 1 == i) z)]
      else some [(none, cw_st e i (cw_int cw_top) none, cw_clr (fun u => u.1 == i || u.1 + 1 == i) z)]
    | _ => none
  | .goto off, z => bif cv_jmp q.1 off then some [(some (cv_tgt q.1 off), e, z)] else none
  | .iaload, (.inl w, _) :: (.inr (.inr d), _) :: z => bif d == 1004 || d == 1005 then (bif cw_ix w 9 then some [(none, e, (cw_int cw_top, none) :: z)] else none) else (match Ds[d]? with
    | some (.inl (0, n, p, rs)) => bif cw_ix w n then (let r := cw_hull (cw_sel p rs w).1; some [(none, e, (cw_int (r.1, r.2, 0), none) :: z)]) else none
    | _ => none)
  | .baload, (.inl w, _) :: (.inr (.inr d), _) :: z => match Ds[d]? with
    | some (.inl (t, n, p, rs)) => bif (t == 1 || t == 2) && cw_ix w n then (let r := cw_hull (cw_sel p rs w).1; some [(none, e, (cw_int (r.1, r.2, 0), none) :: z)]) else none
    | _ => none
  | .laload, (.inl w, _) :: (.inr (.inr d), _) :: z => match Ds[d]? with
    | some (.inr (.inl n)) => bif cw_ix w n then some [(none, e, (cw_lng cw_topL, none) :: z)] else none
    | _ => none
  | .aaload, (.inl w, _) :: (.inr (.inr d), _) :: z => match Ds[d]? with
    | some (.inr (.inr (.inl (_, n, d')))) => bif cw_ix w n && Nat.ble d' 999 then some [(none, e, (cw_rf d', none) :: z)] else none
    | _ => none
  | .iastore, (.inl x, _) :: (.inl w, _) :: (.inr (.inr d), _) :: z => match Ds[d]? with
    | some (.inl (0, n, p, rs)) => bif cw_ix w n && (cw_may wm dp d (cw_sel p rs w).2 && (cw_sel p rs w).1.all (fun r => cw_in x r)) then some [(none, e, z)] else none
    | _ => none
  | .bastore, (.inl x, _) :: (.inl w, _) :: (.inr (.inr d), _) :: z => match Ds[d]? with
    | some (.inl (1, n, 1, [r])) => bif cw_ix w n && (cw_may wm dp d 0 && cw_in (-128, 127, 0) r) then some [(none, e, z)] else none
    | some (.inl (2, n, 1, [r])) => bif cw_ix w n && (cw_may wm dp d 0 && cw_in (0, 1, 0) r) then some [(none, e, z)] else none
    | _ => none
  | .lastore, (.inr (.inl _), _) :: (.inl w, _) :: (.inr (.inr d), _) :: z => match Ds[d]? with
    | some (.inr (.inl n)) => bif cw_ix w n && cw_may wm dp d 0 then some [(none, e, z)] else none
    | _ => none
  | .aastore, (.inr (.inr d2), _) :: (.inl w, _) :: (.inr (.inr d), _) :: z => match Ds[d]?, Ds[d2]? with
    | some (.inr (.inr (.inl (t, n, d')))), some (.inr (.inr (.inr (ci, _)))) => bif cw_ix w n && (cw_may wm dp d 0 && (d2 == d' && (Nat.ble d' 999 && ci == (bif t == 4 then 1 else 7)))) then some [(none, e, z)] else none
    | _, _ => none
  | .getfield _, (.inr (.inr d), p) :: z => match Ds[d]? with
    | some (.inr (.inr (.inr (ci, fs)))) => bif ci == q.2.2.2.1 then (match fs[q.2.2.2.2.1]? with
        | some a => (match cw_upath p (q.2.2.2.2.1 + 1) with
          | some u => (match cw_get e u with
            | some (a', _) => some [(none, e, (a', some (.inl (u, 0))) :: z)]
            | none => some [(none, e, (a, some (.inl (u, 0))) :: z)])
          | none => some [(none, e, (a, none) :: z)])
        | none => none) else none
    | _ => none
  | .putfield _, (a, pv) :: (.inr (.inr d), p) :: z => match Ds[d]? with
    | some (.inr (.inr (.inr (ci, fs)))) => bif ci == q.2.2.2.1 && (cw_may wm dp d q.2.2.2.2.1 && Nat.ble q.2.2.2.2.1 98) then (match fs[q.2.2.2.2.1]? with
        | some b => bif cw_sub a b && (match q.2.2.2.2.2.toNat, b with
            | 0, .inl _ => true
            | 2, .inl w => cw_le 0 w.1 && cw_le w.2.1 1
            | 4, .inr (.inr d') => Nat.ble d' 999
            | _, _ => false) then
            (let f := q.2.2.2.2.1 + 1
             let e' := e.filter (fun q => !cw_has q.1.2 f)
             some [(none, (match cw_uref p with
              | some i => ((i, f), a, cw_org e (i, f) pv) :: e'
              | none => e'), cw_clr (fun u => cw_has u.2 f) z)]) else none
        | none => none) else none
    | _ => none
  | .if_icmp o off, (.inl y, p') :: (.inl x, p) :: z => cw_br q.1 off (cw_rf2 e o x p y p') (cw_rf2 e (cw_neg o) x p y p') z
  | .ifCond o off, (.inl x, p) :: z => cw_br q.1 off (cw_rf1 e o x p) (cw_rf1 e (cw_neg o) x p) z
  | .dup, a :: z => bif !cw_isL a.1 then some [(none, e, a :: a :: z)] else none
  | .pop, a :: z => bif !cw_isL a.1 then some [(none, e, z)] else none
  | .dup2, a :: b :: z => bif !cw_isL a.1 && !cw_isL b.1 then some [(none, e, a :: b :: a :: b :: z)] else none
  | .arraylength, (.inr (.inr d), _) :: z => match Ds[d]? with
    | some (.inl (_, n, _, _)) => bif Nat.ble n 10000 then some [(none, e, (cw_int (n, n, 0), none) :: z)] else none
    | some (.inr (.inr (.inl (_, n, _)))) => bif Nat.ble n 10000 then some [(none, e, (cw_int (n, n, 0), none) :: z)] else none
    | _ => none
  | .i2b, (.inl _, _) :: z => some [(none, e, (cw_int (-128, 127, 0), none) :: z)]
  | .i2l, (.inl w, _) :: z => some [(none, e, (cw_lng (w.1, w.2.1, bif cw_nz w then 1 else 0), none) :: z)]
  | .l2i, (.inr (.inl _), _) :: z => some [(none, e, (cw_int cw_top, none) :: z)]
  | .ineg, (.inl w, _) :: z => some [(none, e, (cw_int (cw_wr (-w.2.1) (-w.1) 0), none) :: z)]
  | .lneg, (.inr (.inl w), _) :: z => some [(none, e, (cw_lng (cw_topL.1, cw_topL.2.1, bif cw_nz w then 1 else 0), none) :: z)]
  | .lcmp, (.inr (.inl y), _) :: (.inr (.inl _), p) :: z => some [(none, e, (cw_int (-1, 1, 0), (bif cw_cst y then (match p with
      | some (.inl (u, d)) => bif decide (d = 0) then some (.inr (.inl (u, y.1))) else none
      | _ => none) else none)) :: z)]
  | .lshr, (.inl _, _) :: (.inr (.inl _), _) :: z => some [(none, e, (cw_lng cw_topL, none) :: z)]
  | .tableswitch d lo hi offs, (.inl _, _) :: z => bif decide (hi - lo < offs.size) then cw_swt q.1 (d :: offs.toList) e z else none
  | i, (.inl y, _) :: (.inl x, p) :: z => match cw_bin i x y with
    | some w => some [(none, e, (cw_int w, cw_binP i x p y) :: z)]
    | none => none
  | i, (.inr (.inl y), _) :: (.inr (.inl x), _) :: z => match cw_binL i x y with
    | some w => some [(none, e, (cw_lng w, none) :: z)]
    | none => none
  | _, _ => none
/-- Math's -/
def cw_wid (z : cw_Z) : Nat := (z.map fun v => bif cw_isL v.1 then 2 else 1).sum
def cw_nat (M : cv_M) (q : cv_Q) (e : cw_E) (z : cw_Z) : Option cw_R :=
  bif Nat.ble 1 M.2.2.2.2.1 then
    match q.2.1, q.2.2.2.1, z with
    | .invokestatic _, 9001, (.inl y, _) :: (.inl x, _) :: z => bif Nat.ble (cw_wid z + 15) M.2.2.2.2.2 then some [(none, e, (cw_int (cw_mx x.1 y.1, cw_mx x.2.1 y.2.1, 0), none) :: z)] else none
    | .invokestatic _, 9002, (.inl y, _) :: (.inl x, _) :: z => bif Nat.ble (cw_wid z + 15) M.2.2.2.2.2 then some [(none, e, (cw_int (cw_mn x.1 y.1, cw_mn x.2.1 y.2.1, 0), none) :: z)] else none
    | .invokestatic _, 9003, (.inl _, _) :: z => bif Nat.ble (cw_wid z + 15) M.2.2.2.2.2 then some [(none, e, (cw_int cw_top, none) :: z)] else none
    | .invokestatic _, 9004, (.inr (.inl _), _) :: (.inr (.inl _), _) :: z => bif Nat.ble (cw_wid z + 15) M.2.2.2.2.2 then some [(none, e, (cw_lng cw_topL, none) :: z)] else none
    | .invokestatic _, 9005, (.inr (.inl _), _) :: (.inr (.inl _), _) :: z => bif Nat.ble (cw_wid z + 15) M.2.2.2.2.2 then some [(none, e, (cw_lng cw_topL, none) :: z)] else none
    | .invokestatic _, 9006, (.inr (.inl w), _) :: z => bif Nat.ble (cw_wid z + 15) M.2.2.2.2.2 then some [(none, e, (cw_lng (cw_topL.1, cw_topL.2.1, bif cw_nz w then 1 else 0), none) :: z)] else none
    | _, _, _ => none
  else none
/-- a contract: the method, its room (locals, frames, slots), what it takes, what it gives, what a true answer tells of a parameter alone, and of one between two others, what it writes -/
abbrev cw_K : Type := (Nat × Nat × Nat × Nat) × List cw_A × Option cw_A × List (Nat × cw_A) × List (Nat × Nat × Nat) × Nat × List (Nat × cw_A)
def cw_subs : List cw_A → List cw_A → Bool
  | [], [] => true
  | a :: l, b :: m => cw_sub a b && cw_subs l m
  | _, _ => false
/-- what the contract takes of the fields of its first parameter -/
def cw_fps (e : cw_E) (zs : cw_Z) (fp : List (Nat × cw_A)) : Bool := match fp with
  | [] => true
  | fp => (match zs with
    | (_, p) :: _ => (match cw_uref p with
      | some i => fp.all (fun t => Nat.ble t.1 98 && (match cw_get e (i, t.1 + 1) with
        | some (a, _) => cw_sub a t.2
        | none => false))
      | none => false)
    | [] => false)
def cw_find (Ks : List cw_K) (j : Nat) (e : cw_E) (zs : cw_Z) : Option cw_K := Ks.find? (fun K => K.1.1 == j && (cw_subs (zs.map Prod.fst) K.2.1 && cw_fps e zs K.2.2.2.2.2.2))
def cw_var0 (zs : cw_Z) (p : Nat) : Option cw_U := match zs[p]? with
  | some (_, some (.inl (u, d))) => bif decide (d = 0) then some u else none
  | _ => none
def cw_w0 (zs : cw_Z) (p : Nat) : Option cw_W := match zs[p]? with
  | some (.inl w, _) => some w
  | _ => none
def cw_tells (K : cw_K) (zs : cw_Z) : List (cw_U × cw_A) :=
  (K.2.2.2.1.filterMap fun t => match cw_var0 zs t.1 with
    | some u => bif u.2 == 0 || K.2.2.2.2.2.1 == 0 then some (u, t.2) else none
    | none => none) ++
  (K.2.2.2.2.1.filterMap fun t => match cw_var0 zs t.1, cw_w0 zs t.2.1, cw_w0 zs t.2.2 with
    | some u, some a, some b => bif u.2 == 0 || K.2.2.2.2.2.1 == 0 then some (u, cw_int (a.1, b.2.1, 0)) else none
    | _, _, _ => none)
def cw_keep (Ds : List cw_D) (K : cw_K) (e : cw_E) : cw_E := e.filter fun q => q.1.2 == 0 || (match cw_get e (q.1.1, 0) with
  | some (.inr (.inr d), _) => Nat.ble d 999 && (!cw_bit K.2.2.2.2.2.1 d (q.1.2 % 100 - 1) && (Nat.ble q.1.2 99 || (match Ds[d]? with
    | some (.inr (.inr (.inr (_, fs)))) => (match fs[q.1.2 % 100 - 1]? with
      | some (.inr (.inr d')) => Nat.ble d' 999 && !cw_bit K.2.2.2.2.2.1 d' (q.1.2 / 100 - 1)
      | _ => false)
    | _ => false)))
  | _ => false)
def cw_go (Ds : List cw_D) (M : cv_M) (wm : Nat) (K : cw_K) (zs : cw_Z) (e : cw_E) (z : cw_Z) : Option cw_R :=
  bif (Nat.ble (cw_wid zs) K.1.2.1 && (Nat.ble (K.1.2.2.1 + 1) M.2.2.2.2.1 && (Nat.ble (8 + (K.1.2.1 + 11) + K.1.2.2.2) M.2.2.2.2.2 && Nat.ble (cw_wid z) 8))) && Nat.land K.2.2.2.2.2.1 wm == K.2.2.2.2.2.1 then
    some [(none, cw_keep Ds K e, (match K.2.2.1 with
      | some a => [(a, (match cw_tells K zs with
        | [] => none
        | l => some (.inr (.inr l))))]
      | none => []) ++ cw_clr (fun u => !(u.2 == 0)) z)] else none
def cw_call (Ds : List cw_D) (Ks : List cw_K) (M : cv_M) (wm : Nat) (q : cv_Q) (e : cw_E) (z : cw_Z) : Option cw_R :=
  let np := q.2.2.2.2.1
  bif Nat.ble np z.length && Nat.ble q.2.2.2.1 8999 then
    match q.2.1 with
    | .invokestatic _ => (match cw_find Ks q.2.2.2.1 e (z.take np).reverse with
      | some K => cw_go Ds M wm K (z.take np).reverse e (z.drop np)
      | none => none)
    | .invokevirtual _ => (match z.drop np with
      | (.inr (.inr d), p) :: z' => (match Ds[d]? with
        | some (.inr (.inr (.inr (ci, _)))) => bif ci == q.2.2.2.2.2.toNat && Nat.ble d 999 then (match cw_find Ks q.2.2.2.1 e ((.inr (.inr d), p) :: (z.take np).reverse) with
          | some K => cw_go Ds M wm K ((.inr (.inr d), p) :: (z.take np).reverse) e z'
          | none => none) else none
        | _ => none)
      | _ => none)
    | _ => none
  else none
/-- a true answer tells what the contract says -/
def cw_thn (e : cw_E) (w : cw_W) (p : cw_P) (t : Nat × cw_A) : Bool := match cw_get e (t.1, 0) with
  | some (a, o) => (match o with
    | some d => decide (d = 0)
    | none => false) && (cw_sub a t.2 || (match p with
      | some (.inr (.inr l)) => l.any (fun q => cw_ueq q.1 (t.1, 0) && cw_sub q.2 t.2)
      | _ => false))
  | none => false
def cw_ret (M : cv_M) (K : cw_K) (q : cv_Q) (e : cw_E) (z : cw_Z) : Bool := match q.2.1, z, M.1.2.2.2.2, K.2.2.1 with
  | .ireturn, [(.inl w, p)], some .int, some b => cw_sub (.inl w) b && K.2.2.2.1.isEmpty
  | .ireturn, [(.inl w, p)], some .boolean, some b => cw_sub (.inl w) b && (cw_le 0 w.1 && (cw_le w.2.1 1 && (cw_le w.2.1 0 || K.2.2.2.1.all (cw_thn e w p))))
  | .lreturn, [(.inr (.inl w), _)], some .long, some b => cw_sub (.inr (.inl w)) b && K.2.2.2.1.isEmpty
  | .return_, [], none, none => K.2.2.2.1.isEmpty
  | _, _, _, _ => false
/-- places where runs meet: what is known there, and how far it still is -/
abbrev cw_G : Type := Nat × List (cw_U × cw_A) × List (Nat × cw_U × Nat)
def cw_dec (e : cw_E) : List (Nat × cw_U × Nat) → List (Nat × cw_U × Nat) → Bool
  | (0, _, a) :: l, (0, _, b) :: m => (Nat.ble (b + 1) a && Nat.ble a 1000) || (a == b && cw_dec e l m)
  | (1, u, _) :: l, (1, v, _) :: m => cw_ueq u v && (match cw_get e u with
    | some (.inl _, some d) => cw_le 1 d || (decide (d = 0) && cw_dec e l m)
    | _ => false)
  | (2, u, _) :: l, (2, v, _) :: m => cw_ueq u v && (match cw_get e u with
    | some (.inl _, some d) => cw_le d (-1) || (decide (d = 0) && cw_dec e l m)
    | _ => false)
  | _, _ => false
def cw_incl (Ds : List cw_D) (e : cw_E) (c : List (cw_U × cw_A)) : Bool := c.all (fun t => match cw_get e t.1 with
  | some (a, _) => cw_sub a t.2
  | none => Nat.ble 1 t.1.2 && (Nat.ble t.1.2 99 && (match cw_get e (t.1.1, 0) with
    | some (.inr (.inr d), _) => Nat.ble d 999 && (match Ds[d]? with
      | some (.inr (.inr (.inr (_, fs)))) => (match fs[t.1.2 - 1]? with
        | some a => cw_sub a t.2
        | none => false)
      | _ => false)
    | _ => false)))
def cw_hd (l : List cv_Q) (pc : Nat) : Bool := match l with
  | q' :: _ => q'.1 == pc
  | [] => false
def cw_rkd (rk : Option (List (Nat × cw_U × Nat))) (e : cw_E) (m : List (Nat × cw_U × Nat)) : Bool := match rk with
  | some r => cw_dec e r m
  | none => true
def cw_go1 (ev : List cv_Q → cw_E → cw_Z → Bool) (full l : List cv_Q) (pc : Nat) (s : Option Nat × cw_E × cw_Z) : Bool := match s.1 with
  | none => cw_hd l pc && ev l s.2.1 s.2.2
  | some t => ev (full.dropWhile (fun q => !(q.1 == t))) s.2.1 s.2.2
noncomputable def cw_ev (Ds : List cw_D) (Ks : List cw_K) (M : cv_M) (K : cw_K) (dp : Nat) (cs : List cw_G) (rk : Option (List (Nat × cw_U × Nat))) (fuel : Nat) : Bool → List cv_Q → cw_E → cw_Z → Bool :=
  Nat.rec (motive := fun _ => Bool → List cv_Q → cw_E → cw_Z → Bool) (fun _ _ _ _ => false) (fun _ ih b l e z =>
    match l with
    | [] => false
    | q :: l' =>
      match (bif b then none else cs.find? (fun c => c.1 == q.1)) with
      | some c => z.isEmpty && (cw_incl Ds e c.2.1 && cw_rkd rk e c.2.2)
      | none =>
        let go (r : cw_R) : Bool := r.all (cw_go1 (ih false) M.2.1 l' (q.1 + q.2.2.1))
        match cw_one Ds K.2.2.2.2.2.1 dp q e z with
        | some r => go r
        | none =>
        match cw_nat M q e z with
        | some r => go r
        | none =>
        match cw_call Ds Ks M K.2.2.2.2.2.1 q e z with
        | some r => go r
        | none => cw_ret M K q e z) fuel
def cw_sorted : List cv_Q → Bool
  | a :: b :: l => Nat.ble (a.1 + 1) b.1 && cw_sorted (b :: l)
  | _ => true
def cw_ent (i : Nat) : List cw_A → cw_E
  | [] => []
  | v :: l => ((i, 0), v, some 0) :: cw_ent (bif cw_isL v then i + 2 else i + 1) l
noncomputable def cw_chk (Ds : List cw_D) (Ks : List cw_K) (M : cv_M) (K : cw_K) (dp : Nat) (cs : List cw_G) (nr fuel : Nat) : Bool :=
  cw_sorted M.2.1 && ((match M.2.1 with
    | q :: _ => q.1 == 0
    | [] => false) && (K.2.2.2.2.1.isEmpty && ((K.2.2.2.1.isEmpty || (cs.isEmpty && K.2.1.all (fun x => !cw_isL x))) && (K.2.2.2.2.2.2.all (fun t => Nat.ble t.1 98) && (cw_ev Ds Ks M K dp cs none fuel true M.2.1 (cw_ent 0 K.2.1 ++ K.2.2.2.2.2.2.map (fun t => ((0, t.1 + 1), t.2, some 0))) [] &&
    cs.all (fun c => c.2.2.length == nr && cw_ev Ds Ks M K dp cs (some c.2.2) fuel true (M.2.1.dropWhile (fun q => !(q.1 == c.1))) (c.2.1.map (fun t => (t.1, t.2, some 0))) []))))))
theorem cw_ev_eq (Ds : List cw_D) (Ks : List cw_K) (M : cv_M) (K : cw_K) (dp : Nat) (cs : List cw_G) (rk : Option (List (Nat × cw_U × Nat))) (fuel : Nat) (b : Bool) (q : cv_Q) (l : List cv_Q) (e : cw_E) (z : cw_Z) : cw_ev Ds Ks M K dp cs rk (fuel + 1) b (q :: l) e z =
  (match (bif b then none else cs.find? (fun c => c.1 == q.1)) with
      | some c => z.isEmpty && (cw_incl Ds e c.2.1 && cw_rkd rk e c.2.2)
      | none =>
        match cw_one Ds K.2.2.2.2.2.1 dp q e z with
        | some r => r.all (cw_go1 (cw_ev Ds Ks M K dp cs rk fuel false) M.2.1 l (q.1 + q.2.2.1))
        | none =>
        match cw_nat M q e z with
        | some r => r.all (cw_go1 (cw_ev Ds Ks M K dp cs rk fuel false) M.2.1 l (q.1 + q.2.2.1))
        | none =>
        match cw_call Ds Ks M K.2.2.2.2.2.1 q e z with
        | some r => r.all (cw_go1 (cw_ev Ds Ks M K dp cs rk fuel false) M.2.1 l (q.1 + q.2.2.1))
        | none => cw_ret M K q e z) := rfl
end
section
/-! ===== what the check's words mean ===== -/
def cw_tg (G : Int) (t : Nat) (z : Int) : Prop := (t = 1 → z ≠ 0) ∧ (t = 2 → 0 ≤ z ∧ z < G) ∧ (t = 3 → z = G) ∧ (16 ≤ t → z % (cw_md t : Int) = (cw_rs t : Int))
def cw_wok (G : Int) (w : cw_W) (z : Int) : Prop := w.1 ≤ z ∧ z ≤ w.2.1 ∧ cw_tg G w.2.2 z
def cw_ga (G : Int) (sh : List Nat) (a : cw_A) (v : cv_V) : Prop := match a with
  | .inl w => ∃ x, v = cv_i x ∧ cw_wok G w x.toInt
  | .inr (.inl w) => ∃ x, v = cv_l x ∧ cw_wok G w x.toInt
  | .inr (.inr d) => (d < 1000 ∧ ∃ k, v = cv_r k ∧ sh[k]? = some d) ∨ ∃ j, d = 1000 + j ∧ v = cv_s j
theorem cw_le_iff {a b : Int} : cw_le a b = true ↔ a ≤ b := by unfold cw_le; exact decide_eq_true_iff
theorem cw_le_no {a b : Int} : cw_le a b = false ↔ ¬ a ≤ b := by unfold cw_le; exact decide_eq_false_iff_not
theorem cw_tg0 {G z : Int} : cw_tg G 0 z := ⟨fun h => absurd h (by omega), fun h => absurd h (by omega), fun h => absurd h (by omega), fun h => absurd h (by omega)⟩
theorem cw_i32 (n : Int32) : -2147483648 ≤ n.toInt ∧ n.toInt ≤ 2147483647 := by
  have h1 := n.toInt_lt
  have h2 := n.le_toInt
  omega
theorem cw_i64 (n : Int64) : -9223372036854775808 ≤ n.toInt ∧ n.toInt ≤ 9223372036854775807 := by
  have h1 := n.toInt_lt
  have h2 := n.le_toInt
  omega
theorem cw_top_ok {G : Int} (n : Int32) : cw_wok G cw_top n.toInt := ⟨(cw_i32 n).1, (cw_i32 n).2, cw_tg0⟩
theorem cw_topL_ok {G : Int} (n : Int64) : cw_wok G cw_topL n.toInt := ⟨(cw_i64 n).1, (cw_i64 n).2, cw_tg0⟩
theorem cw_mn_le {a b z : Int} (h1 : z ≤ a) (h2 : z ≤ b) : z ≤ cw_mn a b := by unfold cw_mn; cases cw_le a b <;> assumption
theorem cw_le_mx {a b z : Int} (h1 : a ≤ z) (h2 : b ≤ z) : cw_mx a b ≤ z := by unfold cw_mx; cases cw_le a b <;> assumption
theorem cw_mn_l {a b : Int} : cw_mn a b ≤ a := by
  unfold cw_mn; cases h : cw_le a b
  · rw [cw_le_no] at h; simp; omega
  · exact Int.le_refl _
theorem cw_mn_r {a b : Int} : cw_mn a b ≤ b := by
  unfold cw_mn; cases h : cw_le a b
  · exact Int.le_refl _
  · rw [cw_le_iff] at h; exact h
theorem cw_mx_l {a b : Int} : a ≤ cw_mx a b := by
  unfold cw_mx; cases h : cw_le a b
  · exact Int.le_refl _
  · rw [cw_le_iff] at h; exact h
theorem cw_mx_r {a b : Int} : b ≤ cw_mx a b := by
  unfold cw_mx; cases h : cw_le a b
  · rw [cw_le_no] at h; simp; omega
  · exact Int.le_refl _
theorem cw_bm {z : Int} (h : -2147483648 ≤ z) (h2 : z ≤ 2147483647) : z.bmod (2 ^ 32) = z := by
  rw [Int.bmod_def]; split <;> omega
theorem cw_bmL {z : Int} (h : -9223372036854775808 ≤ z) (h2 : z ≤ 9223372036854775807) : z.bmod (2 ^ 64) = z := by
  rw [Int.bmod_def]; split <;> omega
theorem cw_wr_ok {G lo hi z : Int} {t : Nat} {r : Int32} (hr : r.toInt = z.bmod (2 ^ 32)) (h1 : lo ≤ z) (h2 : z ≤ hi) (ht : cw_tg G t z) : cw_wok G (cw_wr lo hi t) r.toInt := by
  unfold cw_wr
  cases h : (cw_le (-2147483648) lo && cw_le hi 2147483647) with
  | false => exact cw_top_ok r
  | true =>
    simp only [Bool.and_eq_true, cw_le_iff] at h
    rw [cond_true, hr, cw_bm (by omega) (by omega)]
    exact ⟨h1, h2, ht⟩
theorem cw_wrL_ok {G lo hi z : Int} {r : Int64} (hr : r.toInt = z.bmod (2 ^ 64)) (h1 : lo ≤ z) (h2 : z ≤ hi) : cw_wok G (cw_wrL lo hi) r.toInt := by
  unfold cw_wrL
  cases h : (cw_le (-9223372036854775808) lo && cw_le hi 9223372036854775807) with
  | false => exact cw_topL_ok r
  | true =>
    simp only [Bool.and_eq_true, cw_le_iff] at h
    rw [cond_true, hr, cw_bmL (by omega) (by omega)]
    exact ⟨h1, h2, cw_tg0⟩
theorem cw_nz_ok {G : Int} {w : cw_W} {z : Int} (h : cw_nz w = true) (hw : cw_wok G w z) : z ≠ 0 := by
  unfold cw_nz at h
  simp only [Bool.or_eq_true, cw_le_iff, beq_iff_eq] at h
  obtain ⟨h1, h2, h3⟩ := hw
  rcases h with h | h | h
  · omega
  · omega
  · exact h3.1 h
theorem cw_cst_ok {G : Int} {w : cw_W} {z : Int} (h : cw_cst w = true) (hw : cw_wok G w z) : z = w.1 := by
  unfold cw_cst at h
  simp only [decide_eq_true_eq] at h
  obtain ⟨h1, h2, -⟩ := hw
  omega
theorem cw_mdrs (m r : Nat) (hr : r < 64) : cw_md (16 + 64 * m + r) = m ∧ cw_rs (16 + 64 * m + r) = r := by
  unfold cw_md cw_rs
  constructor <;> omega
theorem cw_tg_md {G z : Int} {m r : Nat} (hm : 1 ≤ m) (hr : r < 64) (h : z % (m : Int) = (r : Int)) : cw_tg G (16 + 64 * m + r) z := by
  refine ⟨fun h => by omega, fun h => by omega, fun h => by omega, fun _ => ?_⟩
  rw [(cw_mdrs m r hr).1, (cw_mdrs m r hr).2]
  exact h
theorem cw_tg_add {G : Int} {t : Nat} {z c : Int} (ht : cw_tg G t z) (hm : cw_mok t = true) (hc : 0 ≤ c) : cw_tg G (16 + 64 * cw_md t + (cw_rs t + c.toNat) % cw_md t) (z + c) := by
  unfold cw_mok at hm
  simp only [Bool.and_eq_true, Nat.ble_eq] at hm
  obtain ⟨h1, h2, h3⟩ := hm
  have h4 := ht.2.2.2 h1
  have h5 : (cw_rs t + c.toNat) % cw_md t < cw_md t := Nat.mod_lt _ (by omega)
  refine cw_tg_md h2 (by omega) ?_
  have e : ((cw_rs t + c.toNat) % cw_md t : Nat) = ((z % (cw_md t : Int) + c) % (cw_md t : Int)) := by
    rw [h4, Int.natCast_emod, Int.natCast_add, Int.toNat_of_nonneg hc]
  rw [e, Int.emod_add_emod]
theorem cw_tadd_ok {G : Int} {x y : cw_W} {a b : Int} (hx : cw_wok G x a) (hy : cw_wok G y b) : cw_tg G (cw_tadd x y) (a + b) := by
  unfold cw_tadd
  cases h1 : (cw_cst y && (cw_le 0 y.1 && cw_mok x.2.2)) with
  | true =>
    simp only [Bool.and_eq_true, cw_le_iff] at h1
    rw [cond_true, cw_cst_ok h1.1 hy]
    exact cw_tg_add hx.2.2 h1.2.2 h1.2.1
  | false =>
    rw [cond_false]
    cases h2 : (cw_cst x && (cw_le 0 x.1 && cw_mok y.2.2)) with
    | true =>
      simp only [Bool.and_eq_true, cw_le_iff] at h2
      rw [cond_true, cw_cst_ok h2.1 hx, Int.add_comm]
      exact cw_tg_add hy.2.2 h2.2.2 h2.2.1
    | false => exact cw_tg0
theorem cw_tmul_ok {G : Int} {x y : cw_W} {a b : Int} (hx : cw_wok G x a) (hy : cw_wok G y b) : cw_tg G (cw_tmul x y) (a * b) := by
  unfold cw_tmul
  cases h1 : (cw_cst y && (cw_le 2 y.1 && cw_le y.1 63)) with
  | true =>
    simp only [Bool.and_eq_true, cw_le_iff] at h1
    rw [cond_true, cw_cst_ok h1.1 hy]
    refine cw_tg_md (r := 0) (by omega) (by omega) ?_
    rw [Int.toNat_of_nonneg (by omega), Int.mul_emod_left]
    rfl
  | false =>
    rw [cond_false]
    cases h2 : (cw_cst x && (cw_le 2 x.1 && cw_le x.1 63)) with
    | true =>
      simp only [Bool.and_eq_true, cw_le_iff] at h2
      rw [cond_true, cw_cst_ok h2.1 hx]
      refine cw_tg_md (r := 0) (by omega) (by omega) ?_
      rw [Int.toNat_of_nonneg (by omega), Int.mul_emod_right]
      rfl
    | false => exact cw_tg0
theorem cw_mul_b {a b x y : cw_W} {X Y : Int} (h1 : 0 ≤ x.1) (h2 : 0 ≤ y.1) (hx : x.1 ≤ X ∧ X ≤ x.2.1) (hy : y.1 ≤ Y ∧ Y ≤ y.2.1) : x.1 * y.1 ≤ X * Y ∧ X * Y ≤ x.2.1 * y.2.1 :=
  ⟨Int.mul_le_mul hx.1 hy.1 h2 (by omega), Int.mul_le_mul hx.2 hy.2 (by omega) (by omega)⟩
theorem cw_and_ok {x y : Int32} (h : 0 ≤ y.toInt) : 0 ≤ (x &&& y).toInt ∧ (x &&& y).toInt ≤ y.toInt := by
  have e : (x &&& y).toInt = (x.toBitVec &&& y.toBitVec).toInt := rfl
  have e2 : y.toInt = y.toBitVec.toInt := rfl
  rw [e, BitVec.toInt_and]
  have h3 : y.toBitVec.toInt = y.toBitVec.toNat := by
    have := BitVec.toInt_eq_toNat_cond y.toBitVec
    rw [e2] at h
    rw [this] at h ⊢
    split
    · rfl
    · rename_i q
      rw [if_neg q] at h
      have := y.toBitVec.isLt
      omega
  have h4 : x.toBitVec.toNat &&& y.toBitVec.toNat ≤ y.toBitVec.toNat := Nat.and_le_right
  have h5 := (cw_i32 y).2
  rw [e2, h3] at h5
  rw [e2, h3]
  generalize x.toBitVec.toNat &&& y.toBitVec.toNat = g at h4
  have : ((g : Nat) : Int).bmod (2 ^ 32) = g := cw_bm (by omega) (by omega)
  rw [this]
  omega
theorem cw_and_c (x y : Int32) : x &&& y = y &&& x := Int32.and_comm x y
theorem cw_ne0 {y : Int32} (h : y.toInt ≠ 0) : ¬ y = 0 := fun e => h (by rw [e]; rfl)
theorem cw_ne0L {y : Int64} (h : y.toInt ≠ 0) : ¬ y = 0 := fun e => h (by rw [e]; rfl)
theorem cw_div_b {X Y b c : Int} (h1 : 0 ≤ X) (h2 : 1 ≤ c) (h3 : X ≤ b) (h4 : c ≤ Y) : 0 ≤ X.tdiv Y ∧ X.tdiv Y ≤ b / c := by
  rw [Int.tdiv_eq_ediv_of_nonneg h1]
  refine ⟨Int.ediv_nonneg h1 (by omega), ?_⟩
  refine Int.le_ediv_of_mul_le (by omega) ?_
  have e1 : X / Y * c ≤ X / Y * Y := Int.mul_le_mul_of_nonneg_left h4 (Int.ediv_nonneg h1 (by omega))
  have e2 : X / Y * Y ≤ X := Int.ediv_mul_le X (by omega)
  omega
theorem cw_rem_b {x y : Int32} (h1 : 0 ≤ x.toInt) (h2 : 1 ≤ y.toInt) : 0 ≤ (x - x / y * y).toInt ∧ (x - x / y * y).toInt ≤ y.toInt - 1 := by
  have hb := cw_i32 x
  have hy := cw_i32 y
  have hd := cw_div_b (b := x.toInt) (c := 1) h1 (by omega) (Int.le_refl _) h2
  rw [Int.ediv_one] at hd
  have e1 : (x / y).toInt = x.toInt.tdiv y.toInt := by rw [Int32.toInt_div, cw_bm (by omega) (by omega)]
  have e2 : x.toInt.tdiv y.toInt * y.toInt ≤ x.toInt := by
    rw [Int.tdiv_eq_ediv_of_nonneg h1]; exact Int.ediv_mul_le _ (by omega)
  have e3 : 0 ≤ x.toInt.tdiv y.toInt * y.toInt := Int.mul_nonneg hd.1 (by omega)
  have e4 : (x / y * y).toInt = x.toInt.tdiv y.toInt * y.toInt := by rw [Int32.toInt_mul, e1, cw_bm (by omega) (by omega)]
  rw [Int32.toInt_sub, e4, cw_bm (by omega) (by omega)]
  have e5 : x.toInt - x.toInt.tdiv y.toInt * y.toInt = x.toInt % y.toInt := by
    rw [Int.tdiv_eq_ediv_of_nonneg h1, Int.emod_def, Int.mul_comm]
  rw [e5]
  exact ⟨Int.emod_nonneg _ (by omega), by have := Int.emod_lt_of_pos x.toInt (b := y.toInt) (by omega); omega⟩
theorem cw_bin_ok {G : Int} {i : Instr} {x y w : cw_W} {a b : Int32} (h : cw_bin i x y = some w) (hx : cw_wok G x a.toInt) (hy : cw_wok G y b.toInt) : ∃ f r, cv_bin i = some f ∧ f a b = some r ∧ cw_wok G w r.toInt := by
  cases i
  all_goals first | (cases h; done) | skip
  case iadd =>
    cases h
    exact ⟨_, a + b, rfl, rfl, cw_wr_ok (Int32.toInt_add a b) (by have := hx.1; have := hy.1; omega) (by have := hx.2.1; have := hy.2.1; omega) (cw_tadd_ok hx hy)⟩
  case isub =>
    cases h
    exact ⟨_, a - b, rfl, rfl, cw_wr_ok (Int32.toInt_sub a b) (by have := hx.1; have := hy.2.1; omega) (by have := hx.2.1; have := hy.1; omega) cw_tg0⟩
  case imul =>
    cases h
    refine ⟨_, a * b, rfl, rfl, ?_⟩
    cases hc : (cw_le 0 x.1 && cw_le 0 y.1) with
    | false => exact cw_top_ok _
    | true =>
      simp only [Bool.and_eq_true, cw_le_iff] at hc
      have := cw_mul_b (a := x) (b := x) hc.1 hc.2 ⟨hx.1, hx.2.1⟩ ⟨hy.1, hy.2.1⟩
      exact cw_wr_ok (Int32.toInt_mul a b) this.1 this.2 (cw_tmul_ok hx hy)
  case iand =>
    cases h
    refine ⟨_, a &&& b, rfl, rfl, ?_⟩
    cases hc : cw_le 0 y.1 with
    | true =>
      rw [cw_le_iff] at hc
      have h1 := cw_and_ok (x := a) (y := b) (by have := hy.1; omega)
      exact ⟨h1.1, by have := hy.2.1; show _ ≤ y.2.1; omega, cw_tg0⟩
    | false =>
      rw [cond_false]
      cases hc2 : cw_le 0 x.1 with
      | true =>
        rw [cw_le_iff] at hc2
        have h1 := cw_and_ok (x := b) (y := a) (by have := hx.1; omega)
        rw [cw_and_c b a] at h1
        exact ⟨h1.1, by have := hx.2.1; show _ ≤ x.2.1; omega, cw_tg0⟩
      | false => exact cw_top_ok _
  case ior => cases h; exact ⟨_, _, rfl, rfl, cw_top_ok _⟩
  case ishl => cases h; exact ⟨_, _, rfl, rfl, cw_top_ok _⟩
  case ishr => cases h; exact ⟨_, _, rfl, rfl, cw_top_ok _⟩
  case iushr => cases h; exact ⟨_, _, rfl, rfl, cw_top_ok _⟩
  case idiv =>
    replace h : (bif cw_nz y then some (bif cw_le 1 y.1 && cw_le 0 x.1 then (0, x.2.1 / y.1, 0) else cw_top) else none) = some w := h
    obtain ⟨hn, h⟩ := cv_bif h
    cases h
    refine ⟨_, a / b, rfl, if_neg (cw_ne0 (cw_nz_ok hn hy)), ?_⟩
    cases hc : (cw_le 1 y.1 && cw_le 0 x.1) with
    | false => exact cw_top_ok _
    | true =>
      simp only [Bool.and_eq_true, cw_le_iff] at hc
      have h1 := cw_div_b (X := a.toInt) (Y := b.toInt) (b := x.2.1) (c := y.1) (by have := hx.1; omega) hc.1 hx.2.1 hy.1
      have h2 := cw_div_b (X := a.toInt) (Y := b.toInt) (b := a.toInt) (c := 1) (by have := hx.1; omega) (by omega) (Int.le_refl _) (by have := hy.1; omega)
      rw [Int.ediv_one] at h2
      have h3 := cw_i32 a
      rw [Int32.toInt_div, cw_bm (by omega) (by omega)]
      exact ⟨h1.1, h1.2, cw_tg0⟩
  case irem =>
    replace h : (bif cw_le 1 y.1 && cw_le 0 x.1 then some (0, y.2.1 - 1, 0) else none) = some w := h
    obtain ⟨hc, h⟩ := cv_bif h
    cases h
    simp only [Bool.and_eq_true, cw_le_iff] at hc
    have h1 := cw_rem_b (x := a) (y := b) (by have := hx.1; omega) (by have := hy.1; omega)
    refine ⟨_, a - a / b * b, rfl, if_neg (cw_ne0 (by have := hy.1; omega)), h1.1, ?_, cw_tg0⟩
    have := hy.2.1
    show _ ≤ y.2.1 - 1
    omega
theorem cw_binL_ok {G : Int} {i : Instr} {x y w : cw_W} {a b : Int64} (h : cw_binL i x y = some w) (hx : cw_wok G x a.toInt) (hy : cw_wok G y b.toInt) : ∃ f r, cv_binL i = some f ∧ f a b = some r ∧ cw_wok G w r.toInt := by
  cases i
  all_goals first | (cases h; done) | skip
  case ladd => cases h; exact ⟨_, _, rfl, rfl, cw_topL_ok _⟩
  case lsub => cases h; exact ⟨_, _, rfl, rfl, cw_topL_ok _⟩
  case land => cases h; exact ⟨_, _, rfl, rfl, cw_topL_ok _⟩
  case lmul =>
    cases h
    refine ⟨_, a * b, rfl, rfl, ?_⟩
    cases hc : (cw_le 0 x.1 && cw_le 0 y.1) with
    | false => exact cw_topL_ok _
    | true =>
      simp only [Bool.and_eq_true, cw_le_iff] at hc
      have := cw_mul_b (a := x) (b := x) hc.1 hc.2 ⟨hx.1, hx.2.1⟩ ⟨hy.1, hy.2.1⟩
      exact cw_wrL_ok (Int64.toInt_mul a b) this.1 this.2
  case ldiv =>
    replace h : (bif cw_nz y then some cw_topL else none) = some w := h
    obtain ⟨hn, h⟩ := cv_bif h
    cases h
    exact ⟨_, a / b, rfl, if_neg (cw_ne0L (cw_nz_ok hn hy)), cw_topL_ok _⟩
  case lrem =>
    replace h : (bif cw_nz y then some cw_topL else none) = some w := h
    obtain ⟨hn, h⟩ := cv_bif h
    cases h
    exact ⟨_, a - a / b * b, rfl, if_neg (cw_ne0L (cw_nz_ok hn hy)), cw_topL_ok _⟩
/-! comparisons, over the numbers themselves -/
def cw_cmpZ (c : Jvm.ClassFile.Cond) (x y : Int) : Prop := match c with
  | .lt => x < y
  | .ge => y ≤ x
  | .gt => y < x
  | .le => x ≤ y
  | .eq => x = y
  | .ne => ¬ x = y
theorem cw_cmp_Z {c : Jvm.ClassFile.Cond} {x y : Int32} : cv_cmp c x y = true ↔ cw_cmpZ c x.toInt y.toInt := by
  cases c
  · simp only [cv_cmp, cw_cmpZ, decide_eq_true_eq, ← Int32.toInt_inj]
  · simp only [cv_cmp, cw_cmpZ, Bool.not_eq_true', decide_eq_false_iff_not, ← Int32.toInt_inj]
  · simp only [cv_cmp, cw_cmpZ, decide_eq_true_eq, Int32.lt_iff_toInt_lt]
  · simp only [cv_cmp, cw_cmpZ, decide_eq_true_eq, Int32.le_iff_toInt_le]
  · simp only [cv_cmp, cw_cmpZ, decide_eq_true_eq, Int32.lt_iff_toInt_lt]
  · simp only [cv_cmp, cw_cmpZ, decide_eq_true_eq, Int32.le_iff_toInt_le]
theorem cw_neg_Z {c : Jvm.ClassFile.Cond} {x y : Int} : ¬ cw_cmpZ c x y ↔ cw_cmpZ (cw_neg c) x y := by
  cases c <;> simp only [cw_cmpZ, cw_neg] <;> omega
theorem cw_ok2_ok {G : Int} {x y : cw_W} {a b : Int} (hx : cw_wok G x a) (hy : cw_wok G y b) : cw_ok2 x y = some (x, y) := by
  unfold cw_ok2
  have h1 : cw_le x.1 x.2.1 = true := by rw [cw_le_iff]; have := hx.1; have := hx.2.1; omega
  have h2 : cw_le y.1 y.2.1 = true := by rw [cw_le_iff]; have := hy.1; have := hy.2.1; omega
  rw [h1, h2]
  rfl
theorem cw_lt_ok {G : Int} {x y : cw_W} {a b : Int} (hx : cw_wok G x a) (hy : cw_wok G y b) (h : a < b) : ∃ x' y', cw_lt x y = some (x', y') ∧ cw_wok G x' a ∧ cw_wok G y' b := by
  obtain ⟨x1, x2, x3⟩ := hx
  obtain ⟨y1, y2, y3⟩ := hy
  have hx' : cw_wok G (x.1, cw_mn x.2.1 (y.2.1 - 1), bif y.2.2 == 3 && cw_le 0 x.1 then 2 else x.2.2) a := by
    refine ⟨x1, cw_mn_le x2 (by omega), ?_⟩
    cases hc : (y.2.2 == 3 && cw_le 0 x.1) with
    | false => exact x3
    | true =>
      simp only [Bool.and_eq_true, beq_iff_eq, cw_le_iff] at hc
      have := y3.2.2.1 hc.1
      show cw_tg G 2 a
      exact ⟨fun h => absurd h (by omega), fun _ => ⟨by omega, by omega⟩, fun h => absurd h (by omega), fun h => absurd h (by omega)⟩
  have hy' : cw_wok G (cw_mx y.1 (x.1 + 1), y.2.1, y.2.2) b := ⟨cw_le_mx y1 (by omega), y2, y3⟩
  exact ⟨_, _, cw_ok2_ok hx' hy', hx', hy'⟩
theorem cw_lq_ok {G : Int} {x y : cw_W} {a b : Int} (hx : cw_wok G x a) (hy : cw_wok G y b) (h : a ≤ b) : ∃ x' y', cw_lq x y = some (x', y') ∧ cw_wok G x' a ∧ cw_wok G y' b := by
  obtain ⟨x1, x2, x3⟩ := hx
  obtain ⟨y1, y2, y3⟩ := hy
  have hx' : cw_wok G (x.1, cw_mn x.2.1 y.2.1, x.2.2) a := ⟨x1, cw_mn_le x2 (by omega), x3⟩
  have hy' : cw_wok G (cw_mx y.1 x.1, y.2.1, y.2.2) b := ⟨cw_le_mx y1 (by omega), y2, y3⟩
  exact ⟨_, _, cw_ok2_ok hx' hy', hx', hy'⟩
theorem cw_cond_ok {G : Int} {c : Jvm.ClassFile.Cond} {x y : cw_W} {a b : Int} (hx : cw_wok G x a) (hy : cw_wok G y b) (h : cw_cmpZ c a b) : ∃ x' y', cw_cond c x y = some (x', y') ∧ cw_wok G x' a ∧ cw_wok G y' b := by
  cases c
  case lt => exact cw_lt_ok hx hy h
  case le => exact cw_lq_ok hx hy h
  case gt =>
    obtain ⟨x', y', h1, h2, h3⟩ := cw_lt_ok hy hx h
    exact ⟨y', x', by show cw_sw (cw_lt y x) = _; rw [h1]; rfl, h3, h2⟩
  case ge =>
    obtain ⟨x', y', h1, h2, h3⟩ := cw_lq_ok hy hx h
    exact ⟨y', x', by show cw_sw (cw_lq y x) = _; rw [h1]; rfl, h3, h2⟩
  case eq =>
    replace h : a = b := h
    subst h
    obtain ⟨x1, x2, x3⟩ := hx
    obtain ⟨y1, y2, y3⟩ := hy
    have hx' : cw_wok G (cw_mx x.1 y.1, cw_mn x.2.1 y.2.1, x.2.2) a := ⟨cw_le_mx x1 y1, cw_mn_le x2 y2, x3⟩
    have hy' : cw_wok G (cw_mx x.1 y.1, cw_mn x.2.1 y.2.1, y.2.2) a := ⟨cw_le_mx x1 y1, cw_mn_le x2 y2, y3⟩
    exact ⟨_, _, cw_ok2_ok hx' hy', hx', hy'⟩
  case ne =>
    replace h : ¬ a = b := h
    show ∃ x' y', (bif cw_cst y then _ else _) = _ ∧ _
    cases hc : cw_cst y with
    | false => exact ⟨_, _, rfl, hx, hy⟩
    | true =>
      have hb := cw_cst_ok hc hy
      subst hb
      obtain ⟨x1, x2, x3⟩ := hx
      have hx' : cw_wok G ((bif decide (x.1 = y.1) then x.1 + 1 else x.1), (bif decide (x.2.1 = y.1) then x.2.1 - 1 else x.2.1), (bif x.2.2 == 0 && decide (y.1 = 0) then 1 else x.2.2)) a := by
        refine ⟨?_, ?_, ?_⟩
        · dsimp only
          cases h1 : decide (x.1 = y.1) with
          | false => exact x1
          | true => simp only [decide_eq_true_eq] at h1; show x.1 + 1 ≤ a; omega
        · dsimp only
          cases h1 : decide (x.2.1 = y.1) with
          | false => exact x2
          | true => simp only [decide_eq_true_eq] at h1; show a ≤ x.2.1 - 1; omega
        · dsimp only
          cases h1 : (x.2.2 == 0 && decide (y.1 = 0)) with
          | false => exact x3
          | true =>
            simp only [Bool.and_eq_true, decide_eq_true_eq] at h1
            show cw_tg G 1 a
            exact ⟨fun _ => by omega, fun h => absurd h (by omega), fun h => absurd h (by omega), fun h => absurd h (by omega)⟩
      exact ⟨_, _, cw_ok2_ok hx' hy, hx', hy⟩
theorem cw_sub_w {G : Int} {x y : cw_W} {z : Int} (h : (cw_le y.1 x.1 && (cw_le x.2.1 y.2.1 && (y.2.2 == 0 || (y.2.2 == x.2.2 || (y.2.2 == 1 && cw_nz x))))) = true) (hx : cw_wok G x z) : cw_wok G y z := by
  simp only [Bool.and_eq_true, Bool.or_eq_true, cw_le_iff, beq_iff_eq] at h
  obtain ⟨h1, h2, h3⟩ := h
  refine ⟨by have := hx.1; omega, by have := hx.2.1; omega, ?_⟩
  rcases h3 with h3 | h3 | ⟨h3, h4⟩
  · rw [h3]; exact cw_tg0
  · rw [h3]; exact hx.2.2
  · rw [h3]
    exact ⟨fun _ => cw_nz_ok h4 hx, fun h => absurd h (by omega), fun h => absurd h (by omega), fun h => absurd h (by omega)⟩
theorem cw_sub_ok {G : Int} {sh : List Nat} {a b : cw_A} {v : cv_V} (h : cw_sub a b = true) (ha : cw_ga G sh a v) : cw_ga G sh b v := by
  rcases a with x | x | d <;> rcases b with y | y | d' <;> first | (cases h; done) | skip
  · obtain ⟨n, rfl, hn⟩ := ha
    exact ⟨n, rfl, cw_sub_w h hn⟩
  · obtain ⟨n, rfl, hn⟩ := ha
    exact ⟨n, rfl, cw_sub_w h hn⟩
  · have : d = d' := by simpa [cw_sub] using h
    subst this
    exact ha
theorem cw_meet_w {G : Int} {x y : cw_W} {z : Int} (hx : cw_wok G x z) (hy : cw_wok G y z) : cw_wok G (cw_mx x.1 y.1, cw_mn x.2.1 y.2.1, bif y.2.2 == 0 then x.2.2 else y.2.2) z := by
  refine ⟨cw_le_mx hx.1 hy.1, cw_mn_le hx.2.1 hy.2.1, ?_⟩
  dsimp only
  cases y.2.2 == 0
  · exact hy.2.2
  · exact hx.2.2
theorem cw_meet_ok {G : Int} {sh : List Nat} {a b : cw_A} {v : cv_V} (ha : cw_ga G sh a v) (hb : cw_ga G sh b v) : cw_ga G sh (cw_meet a b) v := by
  rcases a with x | x | d <;> rcases b with y | y | d' <;> try exact ha
  · obtain ⟨n, rfl, hn⟩ := ha
    obtain ⟨m, e, hm⟩ := hb
    cases e
    exact ⟨n, rfl, cw_meet_w hn hm⟩
  · obtain ⟨n, rfl, hn⟩ := ha
    obtain ⟨m, e, hm⟩ := hb
    cases e
    exact ⟨n, rfl, cw_meet_w hn hm⟩
end
section
/-! ===== variables, the stack, the cells ===== -/
def cw_fld (h : cv_H) (v : Option cv_V) (f : Nat) : Option cv_V := match v with
  | some (.inr (.inr (.inl (some k)))) => (match h[k]? with
    | some (.inr (.inr (.inr (_, fs)))) => fs[f]?
    | _ => none)
  | _ => none
def cw_val (L : cv_L) (h : cv_H) (u : cw_U) : Option cv_V :=
  bif u.2 == 0 then cv_get L u.1 else bif Nat.ble u.2 99 then cw_fld h (cv_get L u.1) (u.2 - 1) else bif Nat.ble 1 (u.2 % 100) then cw_fld h (cw_fld h (cv_get L u.1) (u.2 % 100 - 1)) (u.2 / 100 - 1) else none
def cw_eqd (v0 v : cv_V) (d : Int) : Prop := (d = 0 ∧ v0 = v) ∨ ∃ x0 x : Int32, v0 = cv_i x0 ∧ v = cv_i x ∧ x.toInt = x0.toInt + d
theorem cw_eqd_tr {a b c : cv_V} {d d' : Int} (h1 : cw_eqd a b d) (h2 : cw_eqd b c d') : cw_eqd a c (d + d') := by
  rcases h1 with ⟨rfl, rfl⟩ | ⟨x0, x, rfl, rfl, e⟩
  · rw [Int.zero_add]; exact h2
  · rcases h2 with ⟨rfl, rfl⟩ | ⟨y0, y, e1, rfl, e'⟩
    · exact .inr ⟨x0, x, rfl, rfl, by omega⟩
    · cases e1
      exact .inr ⟨x0, y, rfl, rfl, by omega⟩
theorem cw_eqd_0 {a b : cv_V} (h : cw_eqd a b 0) : a = b := by
  rcases h with ⟨-, rfl⟩ | ⟨x0, x, rfl, rfl, e⟩
  · rfl
  · have : x = x0 := Int32.toInt_inj.mp (by omega)
    rw [this]
section CWS
variable {G : Int} {sh : List Nat}
def cw_Er (G : Int) (sh : List Nat) (v0 : cw_U → Option cv_V) (e : cw_E) (vl : cw_U → Option cv_V) : Prop := ∀ t ∈ e, ∃ v, vl t.1 = some v ∧ cw_ga G sh t.2.1 v ∧ ∀ d, t.2.2 = some d → ∃ w, v0 t.1 = some w ∧ cw_eqd w v d
def cw_pr (G : Int) (sh : List Nat) (vl : cw_U → Option cv_V) (p : cw_P) (v : cv_V) : Prop := match p with
  | none => True
  | some (.inl (u, d)) => ∃ w, vl u = some w ∧ cw_eqd w v d
  | some (.inr (.inl (u, n))) => ∃ (y : Int64) (x : Int32), vl u = some (cv_l y) ∧ v = cv_i x ∧ (x.toInt < 0 ↔ y.toInt < n) ∧ (x.toInt = 0 ↔ y.toInt = n)
  | some (.inr (.inr l)) => ∀ x : Int32, v = cv_i x → x.toInt ≠ 0 → ∀ t ∈ l, ∃ w, vl t.1 = some w ∧ cw_ga G sh t.2 w
def cw_Zr (G : Int) (sh : List Nat) (vl : cw_U → Option cv_V) : cw_Z → List cv_V → Prop
  | [], [] => True
  | q :: z, v :: st => (cw_ga G sh q.1 v ∧ cw_pr G sh vl q.2 v) ∧ cw_Zr G sh vl z st
  | _, _ => False
theorem cw_ueq_iff {a b : cw_U} : cw_ueq a b = true ↔ a = b := by
  unfold cw_ueq
  obtain ⟨a1, a2⟩ := a
  obtain ⟨b1, b2⟩ := b
  simp
theorem cw_get_mem {e : cw_E} {u : cw_U} {a : cw_A} {o : Option Int} (h : cw_get e u = some (a, o)) : (u, a, o) ∈ e := by
  unfold cw_get at h
  cases hf : e.find? (fun q => cw_ueq q.1 u) with
  | none => rw [hf] at h; cases h
  | some q =>
    rw [hf] at h
    have h1 := List.mem_of_find?_eq_some hf
    have h2 := List.find?_some hf
    rw [cw_ueq_iff] at h2
    simp at h
    obtain ⟨q1, q2⟩ := q
    dsimp only at h2 h
    rw [← h2, ← h]
    exact h1
theorem cw_get_ok {v0 vl : cw_U → Option cv_V} {e : cw_E} {u : cw_U} {a : cw_A} {o : Option Int} (he : cw_Er G sh v0 e vl) (h : cw_get e u = some (a, o)) : ∃ v, vl u = some v ∧ cw_ga G sh a v ∧ ∀ d, o = some d → ∃ w, v0 u = some w ∧ cw_eqd w v d :=
  he _ (cw_get_mem h)
theorem cw_Er_mv {v0 vl vl' : cw_U → Option cv_V} {e e' : cw_E} (he : cw_Er G sh v0 e vl) (h : ∀ t ∈ e', t ∈ e ∧ ∀ w, vl t.1 = some w → cw_ga G sh t.2.1 w → vl' t.1 = some w) : cw_Er G sh v0 e' vl' := by
  intro t ht
  obtain ⟨hm, hv⟩ := h t ht
  obtain ⟨v, h1, h2, h3⟩ := he t hm
  exact ⟨v, hv v h1 h2, h2, h3⟩
theorem cw_Er_cons {v0 vl : cw_U → Option cv_V} {e : cw_E} {u : cw_U} {a : cw_A} {o : Option Int} {v : cv_V} (he : cw_Er G sh v0 e vl) (h1 : vl u = some v) (h2 : cw_ga G sh a v) (h3 : ∀ d, o = some d → ∃ w, v0 u = some w ∧ cw_eqd w v d) : cw_Er G sh v0 ((u, a, o) :: e) vl := by
  intro t ht
  rcases List.mem_cons.mp ht with rfl | ht
  · exact ⟨v, h1, h2, h3⟩
  · exact he t ht
theorem cw_put_ok {v0 vl : cw_U → Option cv_V} {e : cw_E} {u : cw_U} {a : cw_A} {v : cv_V} (he : cw_Er G sh v0 e vl) (h1 : vl u = some v) (h2 : cw_ga G sh a v) : cw_Er G sh v0 (cw_put e u a) vl := by
  unfold cw_put
  cases hg : cw_get e u with
  | none => exact cw_Er_cons he h1 h2 (fun d h => by cases h)
  | some ao =>
    obtain ⟨a0, o⟩ := ao
    obtain ⟨v', g1, g2, g3⟩ := cw_get_ok he hg
    rw [h1] at g1
    cases g1
    refine cw_Er_cons (cw_Er_mv he fun t ht => ⟨(List.mem_filter.mp ht).1, fun w hw _ => hw⟩) h1 (cw_meet_ok g2 h2) g3
theorem cw_puts_ok {v0 vl : cw_U → Option cv_V} {l : List (cw_U × cw_A)} : ∀ {e : cw_E}, cw_Er G sh v0 e vl → (∀ t ∈ l, ∃ w, vl t.1 = some w ∧ cw_ga G sh t.2 w) → cw_Er G sh v0 (cw_puts e l) vl := by
  induction l with
  | nil => intro e he _; exact he
  | cons q l ih =>
    intro e he h
    obtain ⟨w, h1, h2⟩ := h q List.mem_cons_self
    exact ih (cw_put_ok he h1 h2) fun t ht => h t (List.mem_cons_of_mem _ ht)
theorem cw_tg_d {d : Int} {w : cw_W} {x x0 : Int} (hw : cw_wok G w x) (e : x = x0 + d) : cw_wok G (w.1 - d, w.2.1 - d, bif decide (d = 0) then w.2.2 else 0) x0 := by
  obtain ⟨h1, h2, h3⟩ := hw
  refine ⟨by dsimp only; omega, by dsimp only; omega, ?_⟩
  dsimp only
  cases h : decide (d = 0) with
  | false => exact cw_tg0
  | true =>
    simp only [decide_eq_true_eq] at h
    have : x = x0 := by omega
    rw [cond_true, ← this]
    exact h3
theorem cw_rfn_ok {v0 vl : cw_U → Option cv_V} {e : cw_E} {p : cw_P} {w : cw_W} {x : Int32} (he : cw_Er G sh v0 e vl) (hp : cw_pr G sh vl p (cv_i x)) (hw : cw_wok G w x.toInt) : cw_Er G sh v0 (cw_rfn e p w) vl := by
  rcases p with _ | ⟨⟨u, d⟩ | ⟨⟨u, n⟩ | l⟩⟩
  · exact he
  · obtain ⟨w0, h1, h2⟩ := hp
    have : ∃ x0, w0 = cv_i x0 ∧ x.toInt = x0.toInt + d := by
      rcases h2 with ⟨rfl, rfl⟩ | ⟨x0, x', rfl, e1, e2⟩
      · exact ⟨x, rfl, by omega⟩
      · cases e1; exact ⟨x0, rfl, e2⟩
    obtain ⟨x0, rfl, e2⟩ := this
    exact cw_put_ok he h1 ⟨x0, rfl, cw_tg_d hw e2⟩
  · exact he
  · show cw_Er G sh v0 (bif cw_nz w then cw_puts e l else e) vl
    cases hn : cw_nz w with
    | false => exact he
    | true => exact cw_puts_ok he (hp x rfl (cw_nz_ok hn hw))
theorem cw_Zr_clr {vl vl' : cw_U → Option cv_V} {f : cw_U → Bool} (hf : ∀ u, f u = false → ∀ w, vl u = some w → vl' u = some w) : ∀ {z : cw_Z} {st : List cv_V}, cw_Zr G sh vl z st → cw_Zr G sh vl' (cw_clr f z) st
  | [], [], _ => trivial
  | q :: z, v :: st, ⟨⟨h1, h2⟩, h3⟩ => by
    refine ⟨⟨h1, ?_⟩, cw_Zr_clr hf h3⟩
    dsimp only
    cases hm : cw_pm f q.2 with
    | true => exact trivial
    | false =>
      rw [cond_false]
      obtain ⟨a, p⟩ := q
      rcases p with _ | ⟨⟨u, d⟩ | ⟨⟨u, n⟩ | l⟩⟩
      · exact trivial
      · obtain ⟨w, g1, g2⟩ := h2
        exact ⟨w, hf u hm w g1, g2⟩
      · obtain ⟨y, x, g1, g2⟩ := h2
        exact ⟨y, x, hf u hm _ g1, g2⟩
      · intro x hx h0 t ht
        obtain ⟨w, g1, g2⟩ := h2 x hx h0 t ht
        refine ⟨w, hf t.1 ?_ w g1, g2⟩
        have hm : l.any (fun q => f q.1) = false := hm
        rw [List.any_eq_false] at hm
        simpa using hm t ht
theorem cw_Zr_len {vl : cw_U → Option cv_V} : ∀ {z : cw_Z} {st : List cv_V}, cw_Zr G sh vl z st → z.length = st.length
  | [], [], _ => rfl
  | _ :: z, _ :: st, h => by simp [cw_Zr_len h.2]
theorem cw_isL_ga {a : cw_A} {v : cv_V} (h : cw_ga G sh a v) : cw_isL a = cv_isL v := by
  rcases a with x | x | d
  · obtain ⟨n, rfl, -⟩ := h; rfl
  · obtain ⟨n, rfl, -⟩ := h; rfl
  · rcases h with ⟨-, k, rfl, -⟩ | ⟨j, -, rfl⟩ <;> rfl
theorem cw_Zr_wid {vl : cw_U → Option cv_V} : ∀ {z : cw_Z} {st : List cv_V}, cw_Zr G sh vl z st → cw_wid z = cv_wid st
  | [], [], _ => rfl
  | q :: z, v :: st, h => by
    have ih := cw_Zr_wid h.2
    unfold cw_wid cv_wid at ih ⊢
    simp only [List.map_cons, List.sum_cons]
    rw [ih, cw_isL_ga h.1.1]
/-! locals -/
theorem cw_gs_self (L : cv_L) (i : Nat) (v : cv_V) : cv_get (cv_set L i v) i = some v := by
  unfold cv_get cv_set
  rw [List.find?_cons_of_pos (by simp)]
  rfl
theorem cw_gsL_self (L : cv_L) (i : Nat) (v : cv_V) : cv_get (cv_setL L i v) i = some v := by
  unfold cv_get cv_setL
  rw [List.find?_cons_of_pos (by simp)]
  rfl
theorem cw_gf {L : cv_L} {j : Nat} {w : cv_V} {f : Nat × cv_V → Bool} (h : cv_get L j = some w) (hf : f (j, w) = true) : cv_get (L.filter f) j = some w := by
  unfold cv_get at h ⊢
  induction L with
  | nil => cases h
  | cons q L ih =>
    by_cases hq : (q.1 == j) = true
    · rw [List.find?_cons_of_pos (p := fun q : Nat × cv_V => q.1 == j) hq] at h
      have e : q = (j, w) := by
        obtain ⟨q1, q2⟩ := q
        simp at h hq
        rw [h, hq]
      rw [List.filter_cons_of_pos (by rw [e]; exact hf), List.find?_cons_of_pos (p := fun q : Nat × cv_V => q.1 == j) hq]
      exact h
    · rw [List.find?_cons_of_neg (p := fun q : Nat × cv_V => q.1 == j) hq] at h
      by_cases hp : f q = true
      · rw [List.filter_cons_of_pos hp, List.find?_cons_of_neg (p := fun q : Nat × cv_V => q.1 == j) hq]
        exact ih h
      · rw [List.filter_cons_of_neg hp]
        exact ih h
theorem cw_gs_ne {L : cv_L} {i j : Nat} {v w : cv_V} (h : cv_get L j = some w) (hj : ¬ j = i) (hl : ¬ (j + 1 = i ∧ cv_isL w = true)) : cv_get (cv_set L i v) j = some w := by
  have h1 : cv_get (cv_set L i v) j = cv_get (L.filter (fun q => !(q.1 == i) && !(q.1 + 1 == i && cv_isL q.2))) j := by
    show (List.find? (fun q => q.1 == j) ((i, v) :: _)).map _ = _
    rw [List.find?_cons_of_neg (by simp; omega)]
    rfl
  rw [h1]
  refine cw_gf h ?_
  simp only [Bool.and_eq_true, Bool.not_eq_true', beq_eq_false_iff_ne]
  refine ⟨hj, ?_⟩
  cases hc : (j + 1 == i && cv_isL w) with
  | false => rfl
  | true => simp only [Bool.and_eq_true, beq_iff_eq] at hc; exact absurd hc hl
theorem cw_gsL_ne {L : cv_L} {i j : Nat} {v w : cv_V} (h : cv_get L j = some w) (hj : ¬ j = i) (hj1 : ¬ j = i + 1) (hl : ¬ (j + 1 = i ∧ cv_isL w = true)) : cv_get (cv_setL L i v) j = some w := by
  have h1 : cv_get (cv_setL L i v) j = cv_get (L.filter (fun q => !(q.1 == i) && (!(q.1 == i + 1) && !(q.1 + 1 == i && cv_isL q.2)))) j := by
    show (List.find? (fun q => q.1 == j) ((i, v) :: _)).map _ = _
    rw [List.find?_cons_of_neg (by simp; omega)]
    rfl
  rw [h1]
  refine cw_gf h ?_
  simp only [Bool.and_eq_true, Bool.not_eq_true', beq_eq_false_iff_ne]
  refine ⟨hj, hj1, ?_⟩
  cases hc : (j + 1 == i && cv_isL w) with
  | false => rfl
  | true => simp only [Bool.and_eq_true, beq_iff_eq] at hc; exact absurd hc hl
/-- what a variable holds if its local stays -/
theorem cw_val_loc {L L' : cv_L} {h : cv_H} {u : cw_U} {w : cv_V} (hv : cw_val L h u = some w) (hl : ∀ x, cv_get L u.1 = some x → (u.2 = 0 → x = w) → (¬ u.2 = 0 → cv_isL x = false) → cv_get L' u.1 = some x) : cw_val L' h u = some w := by
  unfold cw_val at hv ⊢
  have hr : ∀ f, ∀ w, cw_fld h (cv_get L u.1) f = some w → ∃ x, cv_get L u.1 = some x ∧ cv_isL x = false := by
    intro f w q
    cases hx : cv_get L u.1 with
    | none => rw [hx] at q; cases q
    | some x =>
      rw [hx] at q
      refine ⟨x, rfl, ?_⟩
      rcases x with x | x | x | x
      · rfl
      · cases q
      · rfl
      · rfl
  cases hc : u.2 == 0 with
  | true =>
    rw [hc, cond_true] at hv
    exact hl w hv (fun _ => rfl) (fun q => by simp at hc; omega)
  | false =>
    rw [hc, cond_false] at hv
    have hc' : ¬ u.2 = 0 := by simpa using hc
    rw [cond_false]
    cases hb : Nat.ble u.2 99 with
    | true =>
      rw [hb, cond_true] at hv
      obtain ⟨x, h1, h2⟩ := hr _ _ hv
      rw [cond_true, hl x h1 (fun q => absurd q hc') (fun _ => h2), ← h1]
      exact hv
    | false =>
      rw [hb, cond_false] at hv
      rw [cond_false]
      cases hb2 : Nat.ble 1 (u.2 % 100) with
      | false => rw [hb2] at hv; cases hv
      | true =>
        rw [hb2, cond_true] at hv
        rw [cond_true]
        have : ∃ w', cw_fld h (cv_get L u.1) (u.2 % 100 - 1) = some w' := by
          cases hx : cw_fld h (cv_get L u.1) (u.2 % 100 - 1) with
          | none => rw [hx] at hv; cases hv
          | some w' => exact ⟨w', rfl⟩
        obtain ⟨w', hw'⟩ := this
        obtain ⟨x, h1, h2⟩ := hr _ _ hw'
        rw [hl x h1 (fun q => absurd q hc') (fun _ => h2), ← h1]
        exact hv
/-- what a variable holds if the fields stay -/
theorem cw_val_hp {L : cv_L} {h h' : cv_H} {u : cw_U} {w : cv_V} (hv : cw_val L h u = some w) (h1 : ∀ k x, cv_get L u.1 = some (cv_r k) → ¬ u.2 = 0 → (u.2 ≤ 99 ∨ 1 ≤ u.2 % 100) → cw_fld h (some (cv_r k)) (u.2 % 100 - 1) = some x → cw_fld h' (some (cv_r k)) (u.2 % 100 - 1) = some x)
    (h2 : ∀ k k' x, ¬ u.2 ≤ 99 → cv_get L u.1 = some (cv_r k) → cw_fld h (some (cv_r k)) (u.2 % 100 - 1) = some (cv_r k') → cw_fld h (some (cv_r k')) (u.2 / 100 - 1) = some x → cw_fld h' (some (cv_r k')) (u.2 / 100 - 1) = some x) : cw_val L h' u = some w := by
  unfold cw_val at hv ⊢
  have hr : ∀ o f w, cw_fld h o f = some w → ∃ k, o = some (cv_r k) := by
    intro o f w q
    rcases o with _ | x | x | (_ | k) | x
    · cases q
    · cases q
    · cases q
    · cases q
    · exact ⟨k, rfl⟩
    · cases q
  cases hc : u.2 == 0 with
  | true => rw [hc] at hv; exact hv
  | false =>
    rw [hc, cond_false] at hv
    have hc' : ¬ u.2 = 0 := by simpa using hc
    rw [cond_false]
    cases hb : Nat.ble u.2 99 with
    | true =>
      rw [hb, cond_true] at hv
      have hb' : u.2 ≤ 99 := Nat.le_of_ble_eq_true hb
      obtain ⟨k, hk⟩ := hr _ _ _ hv
      have e : u.2 % 100 = u.2 := Nat.mod_eq_of_lt (by omega)
      rw [cond_true, hk]
      rw [hk] at hv
      have := h1 k w hk hc' (.inl hb')
      rw [e] at this
      exact this hv
    | false =>
      have hb' : ¬ u.2 ≤ 99 := fun q => by rw [Nat.ble_eq_true_of_le q] at hb; cases hb
      rw [hb, cond_false] at hv
      rw [cond_false]
      cases hb2 : Nat.ble 1 (u.2 % 100) with
      | false => rw [hb2] at hv; cases hv
      | true =>
        rw [hb2, cond_true] at hv
        rw [cond_true]
        obtain ⟨k', hk'⟩ := hr _ _ _ hv
        obtain ⟨k, hk⟩ := hr _ _ _ hk'
        rw [hk] at hk'
        rw [hk, hk'] at hv
        rw [hk, h1 k _ hk hc' (.inr (Nat.le_of_ble_eq_true hb2)) hk']
        exact h2 k k' w hb' hk hk' hv
theorem cw_st_val {L : cv_L} {h : cv_H} {i : Nat} {v : cv_V} {u : cw_U} {w : cv_V} (hv : cw_val L h u = some w) (hi : ¬ u.1 = i) (hl : ¬ (u.1 + 1 = i ∧ u.2 = 0 ∧ cv_isL w = true)) : cw_val (cv_set L i v) h u = some w := by
  refine cw_val_loc hv fun x hx h0 h1 => cw_gs_ne hx hi fun q => ?_
  by_cases hu : u.2 = 0
  · exact hl ⟨q.1, hu, by rw [← h0 hu]; exact q.2⟩
  · rw [h1 hu] at q; exact absurd q.2 (by simp)
theorem cw_stL_val {L : cv_L} {h : cv_H} {i : Nat} {v : cv_V} {u : cw_U} {w : cv_V} (hv : cw_val L h u = some w) (hi : ¬ u.1 = i) (hi1 : ¬ u.1 = i + 1) (hl : ¬ (u.1 + 1 = i ∧ u.2 = 0 ∧ cv_isL w = true)) : cw_val (cv_setL L i v) h u = some w := by
  refine cw_val_loc hv fun x hx h0 h1 => cw_gsL_ne hx hi hi1 fun q => ?_
  by_cases hu : u.2 = 0
  · exact hl ⟨q.1, hu, by rw [← h0 hu]; exact q.2⟩
  · rw [h1 hu] at q; exact absurd q.2 (by simp)
theorem cw_Er_st {v0 : cw_U → Option cv_V} {e : cw_E} {L : cv_L} {h : cv_H} {i : Nat} {v : cv_V} {a : cw_A} {o : Option Int} (he : cw_Er G sh v0 e (cw_val L h)) (ha : cw_ga G sh a v) (ho : ∀ d, o = some d → ∃ w, v0 (i, 0) = some w ∧ cw_eqd w v d) : cw_Er G sh v0 (cw_st e i a o) (cw_val (cv_set L i v) h) := by
  unfold cw_st
  refine cw_Er_cons (v := v) (cw_Er_mv he fun t ht => ?_) (cw_gs_self L i v) ha ho
  obtain ⟨hm, hf⟩ := List.mem_filter.mp ht
  simp only [Bool.and_eq_true, Bool.not_eq_true', beq_eq_false_iff_ne] at hf
  refine ⟨hm, fun w hw hg => cw_st_val hw hf.1 fun q => ?_⟩
  have h2 := hf.2
  rw [cw_isL_ga hg, q.2.2, q.1] at h2
  simp at h2
theorem cw_Er_stL {v0 : cw_U → Option cv_V} {e : cw_E} {L : cv_L} {h : cv_H} {i : Nat} {v : cv_V} {a : cw_A} (he : cw_Er G sh v0 e (cw_val L h)) (ha : cw_ga G sh a v) : cw_Er G sh v0 (cw_stL e i a) (cw_val (cv_setL L i v) h) := by
  unfold cw_stL
  refine cw_Er_cons (v := v) (cw_Er_mv he fun t ht => ?_) (cw_gsL_self L i v) ha (fun d q => by cases q)
  obtain ⟨hm, hf⟩ := List.mem_filter.mp ht
  simp only [Bool.and_eq_true, Bool.not_eq_true', beq_eq_false_iff_ne] at hf
  refine ⟨hm, fun w hw hg => cw_stL_val hw hf.1 hf.2.1 fun q => ?_⟩
  have h2 := hf.2.2
  rw [cw_isL_ga hg, q.2.2, q.1] at h2
  simp at h2
theorem cw_Zr_st {L : cv_L} {h : cv_H} {i : Nat} {v : cv_V} {z : cw_Z} {st : List cv_V} (hz : cw_Zr G sh (cw_val L h) z st) : cw_Zr G sh (cw_val (cv_set L i v) h) (cw_clr (fun u => u.1 == i || u.1 + 1 == i) z) st := by
  refine cw_Zr_clr (fun u hu w hw => ?_) hz
  simp only [Bool.or_eq_false_iff, beq_eq_false_iff_ne] at hu
  exact cw_st_val hw hu.1 fun q => hu.2 q.1
theorem cw_Zr_stL {L : cv_L} {h : cv_H} {i : Nat} {v : cv_V} {z : cw_Z} {st : List cv_V} (hz : cw_Zr G sh (cw_val L h) z st) : cw_Zr G sh (cw_val (cv_setL L i v) h) (cw_clr (fun u => u.1 == i || (u.1 == i + 1 || u.1 + 1 == i)) z) st := by
  refine cw_Zr_clr (fun u hu w hw => ?_) hz
  simp only [Bool.or_eq_false_iff, beq_eq_false_iff_ne] at hu
  exact cw_stL_val hw hu.1 hu.2.1 fun q => hu.2.2 q.1
theorem cw_org_ok {v0 vl : cw_U → Option cv_V} {e : cw_E} {u : cw_U} {p : cw_P} {v : cv_V} (he : cw_Er G sh v0 e vl) (hp : cw_pr G sh vl p v) : ∀ d, cw_org e u p = some d → ∃ w, v0 u = some w ∧ cw_eqd w v d := by
  intro d hd
  rcases p with _ | ⟨⟨x, n⟩ | ⟨⟨x, n⟩ | l⟩⟩
  · cases hd
  · obtain ⟨w, h1, h2⟩ := hp
    replace hd : (bif cw_ueq x u then (match cw_get e u with
      | some (_, some o) => some (o + n)
      | _ => none) else none) = some d := hd
    obtain ⟨hx, hd⟩ := cv_bif hd
    rw [cw_ueq_iff] at hx
    subst hx
    cases hg : cw_get e x with
    | none => rw [hg] at hd; cases hd
    | some ao =>
      obtain ⟨a, o⟩ := ao
      rw [hg] at hd
      cases o with
      | none => cases hd
      | some o =>
        cases hd
        obtain ⟨v', g1, g2, g3⟩ := cw_get_ok he hg
        rw [h1] at g1
        cases g1
        obtain ⟨w0, k1, k2⟩ := g3 o rfl
        exact ⟨w0, k1, cw_eqd_tr k2 h2⟩
  · cases hd
  · cases hd
end CWS
end
