/-! THE LITTLE MACHINE: values, locals, sums, jumps; each is tied to the real one by the kit's rows -/
abbrev jE : Type := Nat × List Value
abbrev jW : Type := List jE
abbrev jL : Type := List (Option Value)
def j_ad (sc bs : Nat) : Nat → Nat
  | 0 => sc
  | k + 1 => bs + k
def j_av (sc bs : Nat) : Value → Value
  | .ref a => .ref (j_ad sc bs a)
  | v => v
theorem j_av_cat (sc bs : Nat) (v : Value) : (j_av sc bs v).category = v.category := by cases v <;> rfl
theorem j_av_int (sc bs : Nat) (x : Int32) : j_av sc bs (.int x) = .int x := rfl
theorem j_av_long (sc bs : Nat) (x : Int64) : j_av sc bs (.long x) = .long x := rfl
theorem j_av_null (sc bs : Nat) : j_av sc bs .null = .null := rfl
theorem j_av_ref (sc bs a : Nat) : j_av sc bs (.ref a) = .ref (j_ad sc bs a) := rfl
def j_len : Instr → Nat
  | .bipush _ => 2
  | .sipush _ => 3
  | .ldc2_w _ => 3
  | .iload _ => 2
  | .istore _ => 2
  | .lload _ => 2
  | .lstore _ => 2
  | .aload _ => 2
  | .astore _ => 2
  | .iinc _ _ => 3
  | .goto _ => 3
  | .ifCond _ _ => 3
  | .if_icmp _ _ => 3
  | .ifnull _ => 3
  | .getfield _ => 3
  | .putfield _ => 3
  | .new _ => 3
  | .anewarray _ => 3
  | .newarray _ => 2
  | .invokestatic _ => 3
  | .invokevirtual _ => 3
  | .invokespecial _ => 3
  | _ => 1
def j_alu : Instr → List Value → Option (List Value)
  | .iconst n, st => some (.int (Int32.ofInt n) :: st)
  | .bipush n, st => some (.int (Int8.ofInt n).toInt32 :: st)
  | .sipush n, st => some (.int (Int16.ofInt n).toInt32 :: st)
  | .lconst n, st => some (.long (Int64.ofNat (n : Nat)) :: st)
  | .aconst_null, st => some (.null :: st)
  | .iadd, .int y :: .int x :: st => some (.int (x + y) :: st)
  | .isub, .int y :: .int x :: st => some (.int (x - y) :: st)
  | .imul, .int y :: .int x :: st => some (.int (x * y) :: st)
  | .iand, .int y :: .int x :: st => some (.int (x &&& y) :: st)
  | .irem, .int y :: .int x :: st => if y = 0 then none else some (.int (x - x / y * y) :: st)
  | .ineg, .int x :: st => some (.int (-x) :: st)
  | .ishl, .int y :: .int x :: st => some (.int (x <<< (y &&& 31)) :: st)
  | .ishr, .int y :: .int x :: st => some (.int (x >>> (y &&& 31)) :: st)
  | .ladd, .long y :: .long x :: st => some (.long (x + y) :: st)
  | .lsub, .long y :: .long x :: st => some (.long (x - y) :: st)
  | .land, .long y :: .long x :: st => some (.long (x &&& y) :: st)
  | .lor, .long y :: .long x :: st => some (.long (x ||| y) :: st)
  | .lshl, .int y :: .long x :: st => some (.long (x <<< (y.toInt64 &&& 63)) :: st)
  | .lshr, .int y :: .long x :: st => some (.long (x >>> (y.toInt64 &&& 63)) :: st)
  | .lushr, .int y :: .long x :: st => some (.long (x.toUInt64 >>> (y.toInt64.toUInt64 &&& Int64.toUInt64 63)).toInt64 :: st)
  | .lcmp, .long y :: .long x :: st => some (.int (lg_cmp x y) :: st)
  | .i2l, .int x :: st => some (.long x.toInt64 :: st)
  | .l2i, .long x :: st => some (.int x.toInt32 :: st)
  | .i2b, .int x :: st => some (.int x.toInt8.toInt32 :: st)
  | .i2s, .int x :: st => some (.int x.toInt16.toInt32 :: st)
  | .dup, v :: st => if v.category = 1 then some (v :: v :: st) else none
  | .dup_x1, v :: u :: st => if v.category = 1 ∧ u.category = 1 then some (v :: u :: v :: st) else none
  | .dup2, v :: u :: st => if v.category = 1 ∧ u.category = 1 then some (v :: u :: v :: u :: st) else none
  | _, _ => none
def j_get (ls : jL) (i : Nat) : Option Value := match ls[i]? with
  | some o => o
  | none => none
def j_left (ls : jL) (i : Nat) : Bool := match i with
  | 0 => true
  | i + 1 => match j_get ls i with
    | some v => v.category == 1
    | none => true
def j_set1 (ls : jL) (i : Nat) (v : Value) : Option jL := if i < ls.length ∧ j_left ls i = true then some (ls.set i (some v)) else none
def j_set2 (ls : jL) (i : Nat) (v : Value) : Option jL := if i + 1 < ls.length ∧ j_left ls i = true then some ((ls.set i (some v)).set (i + 1) none) else none
def j_ldI (ls : jL) (i : Nat) (st : List Value) : Option (jL × List Value) := match j_get ls i with
  | some (.int x) => some (ls, .int x :: st)
  | _ => none
def j_ldL (ls : jL) (i : Nat) (st : List Value) : Option (jL × List Value) := match j_get ls i with
  | some (.long x) => some (ls, .long x :: st)
  | _ => none
def j_ldA (ls : jL) (i : Nat) (st : List Value) : Option (jL × List Value) := match j_get ls i with
  | some (.ref x) => some (ls, .ref x :: st)
  | some .null => some (ls, .null :: st)
  | _ => none
def j_stI (ls : jL) (i : Nat) : List Value → Option (jL × List Value)
  | .int x :: st => (j_set1 ls i (.int x)).map (fun l => (l, st))
  | _ => none
def j_stL (ls : jL) (i : Nat) : List Value → Option (jL × List Value)
  | .long x :: st => (j_set2 ls i (.long x)).map (fun l => (l, st))
  | _ => none
def j_stA (ls : jL) (i : Nat) : List Value → Option (jL × List Value)
  | .ref x :: st => (j_set1 ls i (.ref x)).map (fun l => (l, st))
  | .null :: st => (j_set1 ls i .null).map (fun l => (l, st))
  | _ => none
def j_inc (ls : jL) (i : Nat) (n : Int) (st : List Value) : Option (jL × List Value) := match j_get ls i with
  | some (.int x) => (j_set1 ls i (.int (x + Int32.ofInt n))).map (fun l => (l, st))
  | _ => none
def j_loc (ls : jL) : Instr → List Value → Option (jL × List Value)
  | .iload_n k, st => j_ldI ls k st
  | .iload k, st => j_ldI ls k st
  | .lload_n k, st => j_ldL ls k st
  | .lload k, st => j_ldL ls k st
  | .aload_n k, st => j_ldA ls k st
  | .aload k, st => j_ldA ls k st
  | .istore_n k, st => j_stI ls k st
  | .istore k, st => j_stI ls k st
  | .lstore_n k, st => j_stL ls k st
  | .lstore k, st => j_stL ls k st
  | .astore_n k, st => j_stA ls k st
  | .astore k, st => j_stA ls k st
  | .iinc k n, st => j_inc ls k n st
  | _, _ => none
def j_tg (pc : Nat) (off : Int) : Option Nat := if 0 ≤ (pc : Int) + off then some ((pc : Int) + off).toNat else none
def j_if (b : Bool) (pc : Nat) (off : Int) (st : List Value) : Option (Nat × List Value) := match j_tg pc off with
  | some t => if b = true then some (t, st) else some (pc + 3, st)
  | none => none
def j_br (pc : Nat) : Instr → List Value → Option (Nat × List Value)
  | .goto off, st => (j_tg pc off).map (fun t => (t, st))
  | .ifCond .eq off, .int x :: st => j_if (decide (x = 0)) pc off st
  | .ifCond .ne off, .int x :: st => j_if (decide (¬ x = 0)) pc off st
  | .ifCond .lt off, .int x :: st => j_if (decide (x < 0)) pc off st
  | .ifCond .ge off, .int x :: st => j_if (decide (0 ≤ x)) pc off st
  | .ifCond .gt off, .int x :: st => j_if (decide (0 < x)) pc off st
  | .ifCond .le off, .int x :: st => j_if (decide (x ≤ 0)) pc off st
  | .if_icmp .eq off, .int y :: .int x :: st => j_if (decide (x = y)) pc off st
  | .if_icmp .ne off, .int y :: .int x :: st => j_if (decide (¬ x = y)) pc off st
  | .if_icmp .lt off, .int y :: .int x :: st => j_if (decide (x < y)) pc off st
  | .if_icmp .ge off, .int y :: .int x :: st => j_if (decide (y ≤ x)) pc off st
  | .if_icmp .gt off, .int y :: .int x :: st => j_if (decide (y < x)) pc off st
  | .if_icmp .le off, .int y :: .int x :: st => j_if (decide (x ≤ y)) pc off st
  | .ifnull _, .ref _ :: st => some (pc + 3, st)
  | .ifnull off, .null :: st => (j_tg pc off).map (fun t => (t, st))
  | .tableswitch d lo hi offs, .int x :: st => if x.toInt < lo ∨ hi < x.toInt then (j_tg pc d).map (fun t => (t, st)) else match offs[(x.toInt - lo).toNat]? with
    | some off => (j_tg pc off).map (fun t => (t, st))
    | none => none
  | .lookupswitch d ps, .int x :: st => if (ps.toList.zip (ps.toList.drop 1)).all (fun (a, next) => a.1 < next.1) = true then (j_tg pc (Op.lookupswitch.offset ps.toList d x.toInt)).map (fun t => (t, st)) else none
  | _, _ => none
theorem j_tg_ok {pc : Nat} {off : Int} {t : Nat} (h : j_tg pc off = some t) : (pc : Int) + off = (t : Int) := by
  unfold j_tg at h
  split at h
  · cases h
    omega
  · cases h
section JALU
variable {p : Program} {l : Launch} {e : Env} {R : Room} {s : State} {m : MethodId} {args : Array Value} {below : List Frame} {meth : Method} {c : Code} {H : Heap} {locs : List Loc} {cells slots : Nat} {Q : State → Prop}
variable {cc : ByteArray} {pc : Nat} {ls : Array Slot} {sc bs : Nat}
set_option maxHeartbeats 4000000 in
theorem j_alu_ok (hx : p.tables.exec = Jvm.exec) (hb : c.code = cc) {i : Instr} {st st' : List Value} (h : j_alu i st = some st') (hd : decode cc pc = .ok (i, j_len i))
    (k : W p l e R s m args below meth c H locs cells slots Q (F0 m (pc + j_len i) ls (st'.map (j_av sc bs)))) : W p l e R s m args below meth c H locs cells slots Q (F0 m pc ls (st.map (j_av sc bs))) := by
  unfold j_alu at h
  split at h
  · cases h; exact lv_iconst hx hb hd rfl k
  · cases h; exact lv_bipush hx hb hd rfl k
  · cases h; exact lv_sipush hx hb hd rfl k
  · cases h; exact lv_lconst hx hb hd rfl k
  · cases h; exact lv_null hx hb hd k
  · cases h; exact lv_iadd hx hb hd k
  · cases h; exact lv_isub hx hb hd k
  · cases h; exact lv_imul hx hb hd k
  · cases h; exact lv_iand hx hb hd k
  · split at h
    · cases h
    · cases h; exact lv_irem hx hb hd (by assumption) k
  · cases h; exact lv_ineg hx hb hd k
  · cases h; exact lv_ishl hx hb hd k
  · cases h; exact lv_ishr hx hb hd k
  · cases h; exact lv_ladd hx hb hd k
  · cases h; exact lv_lsub hx hb hd k
  · cases h; exact lv_land hx hb hd k
  · cases h; exact lv_lor hx hb hd k
  · cases h; exact lv_lshl hx hb hd rfl k
  · cases h; exact lv_lshr hx hb hd rfl k
  · cases h; exact lv_lushr hx hb hd rfl k
  · cases h; exact W.lcmp hx hb hd k
  · cases h; exact lv_i2l hx hb hd rfl k
  · cases h; exact lv_l2i hx hb hd rfl k
  · cases h; exact lv_i2b hx hb hd rfl k
  · cases h; exact lv_i2s hx hb hd rfl k
  · split at h
    · rename_i hc
      cases h; exact lv_dup hx hb hd (by rw [j_av_cat]; exact hc) k
    · cases h
  · split at h
    · rename_i hc
      cases h; exact lv_dup_x1 hx hb hd (by rw [j_av_cat]; exact hc.1) (by rw [j_av_cat]; exact hc.2) k
    · cases h
  · split at h
    · rename_i hc
      cases h; exact lv_dup2_11 hx hb hd (by rw [j_av_cat]; exact hc.1) (by rw [j_av_cat]; exact hc.2) k
    · cases h
  · cases h
theorem j_if_ok {b : Bool} {off : Int} {st st' : List Value} {t : Nat} (h : j_if b pc off st = some (t, st')) : ∃ g : Nat, (pc : Int) + off = (g : Int) ∧ st' = st ∧ (b = true → t = g) ∧ (b = false → t = pc + 3) := by
  unfold j_if at h
  split at h
  · rename_i g hg
    refine ⟨g, j_tg_ok hg, ?_⟩
    split at h
    · rename_i hb
      cases h
      exact ⟨rfl, fun _ => rfl, fun q => by rw [q] at hb; cases hb⟩
    · rename_i hb
      cases h
      exact ⟨rfl, fun q => absurd q hb, fun _ => rfl⟩
  · cases h
end JALU
