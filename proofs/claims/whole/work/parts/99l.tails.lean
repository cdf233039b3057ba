/-! the law: the comparison of two answers -/
theorem lcmp_self (v : Int64) : lg_cmp v v = 0 := by
  unfold lg_cmp
  rw [if_neg (Int64.lt_irrefl (a := v)), if_pos rfl]
theorem vdq : ∀ n, n < 13 → n ≠ 0 → ∀ r, r < 133 → Op.cmpValue (FP.dcmp (FP.ddiv (FP.i2d (nI r)) (FP.i2d (nI n))) (FP.ddiv (FP.i2d (nI r)) (FP.i2d (nI n)))) .l = 0 := by decide +kernel
theorem vfq : ∀ n, n < 13 → n ≠ 0 → ∀ r, r < 13 → Op.cmpValue (FP.dcmp (FP.f2d (FP.fdiv (FP.i2f (nI r)) (FP.i2f (nI n)))) (FP.f2d (FP.fdiv (FP.i2f (nI r)) (FP.i2f (nI n))))) .l = 0 := by decide +kernel
theorem vfn : ∀ n, n < 13 → n ≠ 0 → ∀ r, r < 13 → vf_n64 (FP.f2d (FP.fdiv (FP.i2f (nI r)) (FP.i2f (nI n)))) := by unfold vf_n64; decide +kernel
section ZLT
variable {X : zX} {l : Launch} {E : zG} {rm : Room} {kc ks : Nat} {h : zH} {pc : Nat} {lo : List (Nat × Value)} {st : List Value} {cc : ByteArray} {own : String} {nL : Nat}
theorem zV.dstore {x : UInt64} {i : Nat} (C : zC X cc own nL) (d : decode cc pc = .ok (.dstore i, 2)) (hi : i + 1 < nL) (hf : ∀ ad, (trl ad lo).filter (fun q => !(q.1 == i) && (!(q.1 == i + 1) && !(q.1 + 1 == i && q.2.category == 2))) = trl ad lo) (k : zV X kc ks h (pc + 2) ((i, .double x) :: lo) st) : zV X kc ks h pc lo (.double x :: st) := by
  obtain ⟨p, l, e, R, s, m, args, below, meth, c, E, ad0, n0, Z⟩ := X
  obtain ⟨hx, hb, hml, hown, hlk, hst, hzs, hwm, hsz, hzh⟩ := id C
  intro ad H rl ls e1 e2 w S ol os hl
  exact lv_dstore (lv' := (i, .double x) :: trl ad lo) hx hb d hl (by rw [hml]; exact hi) (by rw [hf]) (fun ls' hl' => k ad H rl ls' e1 e2 w S ⟨trivial, ol⟩ os.2 hl')
theorem zV.fstore {x : UInt32} {i : Nat} (C : zC X cc own nL) (d : decode cc pc = .ok (.fstore i, 2)) (hi : i < nL) (hf : ∀ ad, (trl ad lo).filter (fun q => !(q.1 == i) && !(q.1 + 1 == i && q.2.category == 2)) = trl ad lo) (k : zV X kc ks h (pc + 2) ((i, .float x) :: lo) st) : zV X kc ks h pc lo (.float x :: st) := by
  obtain ⟨p, l, e, R, s, m, args, below, meth, c, E, ad0, n0, Z⟩ := X
  obtain ⟨hx, hb, hml, hown, hlk, hst, hzs, hwm, hsz, hzh⟩ := id C
  intro ad H rl ls e1 e2 w S ol os hl
  exact lv_fstore (lv' := (i, .float x) :: trl ad lo) hx hb d hl (by rw [hml]; exact hi) (by rw [hf]) (fun ls' hl' => k ad H rl ls' e1 e2 w S ⟨trivial, ol⟩ os.2 hl')
end ZLT
set_option maxHeartbeats 4000000 in
set_option maxRecDepth 100000 in
theorem L_tail {X : zX} {l : Launch} {E : zG} (hzs : zS E) (hst : l.stackTraces = false) (C : zC X cL_law RL 9) (G : zGX X l E room_1) {p kc ks sq a k : Nat} {h3 : zH} {b c6 : Int32} {off : Int} (d0 : decode cL_law p = .ok (.istore 7, 2)) (d2 : decode cL_law (p + 2) = .ok (.aload_n 2, 1)) (d3 : decode cL_law (p + 3) = .ok (.invokevirtual 179, 3)) (d6 : decode cL_law (p + 6) = .ok (.iload 6, 2)) (d8 : decode cL_law (p + 8) = .ok (.if_icmp .eq 5, 3)) (d13 : decode cL_law (p + 13) = .ok (.iload 6, 2)) (d15 : decode cL_law (p + 15) = .ok (.ifCond .ne 15, 3)) (d18 : decode cL_law (p + 18) = .ok (.aload_n 3, 1)) (d19 : decode cL_law (p + 19) = .ok (.iconst 0, 1)) (d20 : decode cL_law (p + 20) = .ok (.laload, 1)) (d21 : decode cL_law (p + 21) = .ok (.iload 7, 2)) (d23 : decode cL_law (p + 23) = .ok (.i2l, 1)) (d24 : decode cL_law (p + 24) = .ok (.lcmp, 1)) (d25 : decode cL_law (p + 25) = .ok (.ifCond .eq 5, 3)) (d30 : decode cL_law (p + 30) = .ok (.goto off, 3)) (ht : ((p + 30 : Nat) : Int) + off = ((3182 : Nat) : Int)) (hc : kc ≤ 604272) (hs : ks ≤ 7174744) (hm : zMs h3 (a + 271)) (ho : hK h3 (a + 280) = 104 ∧ hL h3 (a + 280) = 1) (e1 : hI h3 435 (a + 271) = c6) (e2 : c6 = 0 → aJ h3 (a + 280) 0 = b.toInt64) (kk : zV X kc ks h3 3182 [(0, .retAddr sq), (1, .ref a), (2, .ref (a + 271)), (3, .ref (a + 280)), (4, .ref (a + 281)), (5, .int (nI (4 * k)))] []) : zV X kc ks h3 p [(0, .retAddr sq), (1, .ref a), (2, .ref (a + 271)), (3, .ref (a + 280)), (4, .ref (a + 281)), (5, .int (nI (4 * k))), (6, .int c6)] [.int b] := by
  refine zV.istore (lo' := [(0, .retAddr sq), (1, .ref a), (2, .ref (a + 271)), (3, .ref (a + 280)), (4, .ref (a + 281)), (5, .int (nI (4 * k))), (6, .int c6), (7, .int b)]) C d0 (by decide) rfl rfl rfl ?_
  refine zV.aload_n C d2 rfl rfl ?_
  refine zV.callV (n := 0) C G d3 (s_mthrown hzs hst h3 (a + 271) hm) rfl ⟨cd_X10_thrown, lk_L_179, im_X10_thrown, se_X10_X10_thrown, in_X10⟩ ⟨⟨by decide, by decide⟩, by decide⟩ rfl (zRmL rfl hc hs) rfl hm.1 ⟨rfl, by decide⟩ (zaf ?_) (zno)
  refine zV.iload C d6 rfl ?_
  refine zV.icmp_eq (tgt := p + 13) C d8 (by omega) (fun _ => ?_) (fun z => absurd e1 z)
  refine zV.iload C d13 rfl ?_
  have kk : zV X kc ks h3 (p + 30) [(0, .retAddr sq), (1, .ref a), (2, .ref (a + 271)), (3, .ref (a + 280)), (4, .ref (a + 281)), (5, .int (nI (4 * k))), (6, .int c6), (7, .int b)] [] := zV.goto (tgt := 3182) C d30 ht (zV.sub [0, 1, 2, 3, 4, 5] rfl kk)
  refine zV.if_ne (tgt := p + 30) C d15 (by omega) (fun _ => kk) (fun z => ?_)
  refine zV.aload_n C d18 rfl rfl ?_
  refine zV.ic (v := nI 0) C d19 (by decide) ?_
  refine zV.lald (j := 0) C d20 ho.1 rfl (by rw [ho.2]; decide) (by decide) ?_
  refine zV.iload C d21 rfl ?_
  refine zV.i2l C d23 ?_
  refine zV.lcmp C d24 ?_
  refine zV.if_eq (tgt := p + 30) C d25 (by omega) (fun _ => kk) (fun q => absurd ?_ q)
  rw [e2 z]
  exact lcmp_self _
set_option maxHeartbeats 4000000 in
set_option maxRecDepth 100000 in
theorem L_tailB {X : zX} {l : Launch} {E : zG} (hzs : zS E) (hst : l.stackTraces = false) (C : zC X cL_law RL 9) (G : zGX X l E room_1) {p kc ks sq a k : Nat} {h3 : zH} {b c6 : Int32} {off : Int} (d0 : decode cL_law p = .ok (.istore 7, 2)) (d2 : decode cL_law (p + 2) = .ok (.aload_n 2, 1)) (d3 : decode cL_law (p + 3) = .ok (.invokevirtual 179, 3)) (d6 : decode cL_law (p + 6) = .ok (.iload 6, 2)) (d8 : decode cL_law (p + 8) = .ok (.if_icmp .eq 5, 3)) (d13 : decode cL_law (p + 13) = .ok (.iload 6, 2)) (d15 : decode cL_law (p + 15) = .ok (.ifCond .ne 22, 3)) (d18 : decode cL_law (p + 18) = .ok (.aload_n 3, 1)) (d19 : decode cL_law (p + 19) = .ok (.iconst 0, 1)) (d20 : decode cL_law (p + 20) = .ok (.laload, 1)) (d21 : decode cL_law (p + 21) = .ok (.iload 7, 2)) (d23 : decode cL_law (p + 23) = .ok (.ifCond .eq 7, 3)) (d26 : decode cL_law (p + 26) = .ok (.lconst 1, 1)) (d27 : decode cL_law (p + 27) = .ok (.goto 4, 3)) (d30 : decode cL_law (p + 30) = .ok (.lconst 0, 1)) (d31 : decode cL_law (p + 31) = .ok (.lcmp, 1)) (d32 : decode cL_law (p + 32) = .ok (.ifCond .eq 5, 3)) (d37 : decode cL_law (p + 37) = .ok (.goto off, 3)) (ht : ((p + 37 : Nat) : Int) + off = ((3182 : Nat) : Int)) (hc : kc ≤ 604272) (hs : ks ≤ 7174744) (hm : zMs h3 (a + 271)) (ho : hK h3 (a + 280) = 104 ∧ hL h3 (a + 280) = 1) (e1 : hI h3 435 (a + 271) = c6) (e2 : c6 = 0 → aJ h3 (a + 280) 0 = if b = 0 then 0 else 1) (kk : zV X kc ks h3 3182 [(0, .retAddr sq), (1, .ref a), (2, .ref (a + 271)), (3, .ref (a + 280)), (4, .ref (a + 281)), (5, .int (nI (4 * k)))] []) : zV X kc ks h3 p [(0, .retAddr sq), (1, .ref a), (2, .ref (a + 271)), (3, .ref (a + 280)), (4, .ref (a + 281)), (5, .int (nI (4 * k))), (6, .int c6)] [.int b] := by
  refine zV.istore (lo' := [(0, .retAddr sq), (1, .ref a), (2, .ref (a + 271)), (3, .ref (a + 280)), (4, .ref (a + 281)), (5, .int (nI (4 * k))), (6, .int c6), (7, .int b)]) C d0 (by decide) rfl rfl rfl ?_
  refine zV.aload_n C d2 rfl rfl ?_
  refine zV.callV (n := 0) C G d3 (s_mthrown hzs hst h3 (a + 271) hm) rfl ⟨cd_X10_thrown, lk_L_179, im_X10_thrown, se_X10_X10_thrown, in_X10⟩ ⟨⟨by decide, by decide⟩, by decide⟩ rfl (zRmL rfl hc hs) rfl hm.1 ⟨rfl, by decide⟩ (zaf ?_) (zno)
  refine zV.iload C d6 rfl ?_
  refine zV.icmp_eq (tgt := p + 13) C d8 (by omega) (fun _ => ?_) (fun z => absurd e1 z)
  refine zV.iload C d13 rfl ?_
  have kk : zV X kc ks h3 (p + 37) [(0, .retAddr sq), (1, .ref a), (2, .ref (a + 271)), (3, .ref (a + 280)), (4, .ref (a + 281)), (5, .int (nI (4 * k))), (6, .int c6), (7, .int b)] [] := zV.goto (tgt := 3182) C d37 ht (zV.sub [0, 1, 2, 3, 4, 5] rfl kk)
  refine zV.if_ne (tgt := p + 37) C d15 (by omega) (fun _ => kk) (fun z => ?_)
  refine zV.aload_n C d18 rfl rfl ?_
  refine zV.ic (v := nI 0) C d19 (by decide) ?_
  refine zV.lald (j := 0) C d20 ho.1 rfl (by rw [ho.2]; decide) (by decide) ?_
  refine zV.iload C d21 rfl ?_
  refine zV.if_eq (tgt := p + 30) C d23 (by omega) (fun y => ?_) (fun y => ?_)
  · refine zV.lconst (v := 0) C d30 (by decide) ?_
    refine zV.lcmp C d31 ?_
    refine zV.if_eq (tgt := p + 37) C d32 (by omega) (fun _ => kk) (fun q => absurd ?_ q)
    rw [e2 z, if_pos y]
    exact lcmp_self _
  · refine zV.lconst (v := 1) C d26 (by decide) ?_
    refine zV.goto (tgt := p + 31) C d27 (by omega) ?_
    refine zV.lcmp C d31 ?_
    refine zV.if_eq (tgt := p + 37) C d32 (by omega) (fun _ => kk) (fun q => absurd ?_ q)
    rw [e2 z, if_neg y]
    exact lcmp_self _
