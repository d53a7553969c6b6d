def s_La_law_182 (L : Nat) (xs : Nat → Int32) (k23 : Nat → Nat → Nat → Int32 → am_w → Option (Int32 × am_w)) (v1 : Nat) (v2 : Nat) (v3 : Nat) (v4 : Int32) (s0 : Int32) (s1 : Int32) (w : am_w) : Option (Int32 × am_w) := (if (lg_cmp (Int32.toInt64 s1) (Int32.toInt64 s0)) = 0 then (k23 v1 v2 v3 (v4 + (3 : Int32)) w) else (some ((0 : Int32), w)))
set_option maxHeartbeats 4000000 in
theorem L_La_law_182 {p : Program} {l : Launch} {e : Env} {s : State} {m : MethodId} {below : List Frame} {meth : Method} {c : Code} {D : va_G} {A : Nat → Prop} {sb L : Nat} {xs : Nat → Int32} {r : Int32 × am_w} (C : am_C p m c code 7 s #[Value.ref sb] am_W "RoverMinutesLaw" D classes A) (hl : l.stackTraces = false) (hret : meth.sig.returnType = ret) (hlk : meth.locks = false) (hA : ∀ q, A q → s.heap.size ≤ q) (hsc : va_X sb L xs s s.heap) (hsb : sb < s.heap.size) (hr1 : r.1 = 1) {k23 : Nat → Nat → Nat → Int32 → am_w → Option (Int32 × am_w)} {n : Nat} (hk23 : ∀ (v1 : Nat) (v2 : Nat) (v3 : Nat) (v4 : Int32) (w : am_w), k23 v1 v2 v3 v4 w = some r → ∀ cells slots, cells + n ≤ 631199 → slots + 6 * n ≤ 7202507 → am_V p l e room_1 s m #[Value.ref sb] below meth c D classes tys A (am_F A true) 7 cells slots (lw_Z below #[Value.ref sb] s) 23 [some (.ref sb), some (.ref v1), some (.ref v2), some (.ref v3), some (.int v4), none, none] [] w) {cells slots : Nat} (hc : cells + (n + 1) ≤ 631199) (hs : slots + 6 * (n + 1) ≤ 7202507) : ∀ (v1 : Nat) (v2 : Nat) (v3 : Nat) (v4 : Int32) (s0 : Int32) (s1 : Int32) (w : am_w), s_La_law_182 L xs k23 v1 v2 v3 v4 s0 s1 w = some r → am_V p l e room_1 s m #[Value.ref sb] below meth c D classes tys A (am_F A true) 7 (cells + 1) (slots + 6) (lw_Z below #[Value.ref sb] s) 182 [some (.ref sb), some (.ref v1), some (.ref v2), some (.ref v3), some (.int v4), none, none] [.long (Int32.toInt64 s0), .long (Int32.toInt64 s1)] w := by
  intro v1 v2 v3 v4 s0 s1 w hX
  unfold s_La_law_182 at hX
  refine am_lcmp (pc := 182) C d_La_law_182 ?_
  refine am_if_eq (pc := 183) (tgt := 188) C d_La_law_183 rfl hX (fun hX => ?_) (fun hX => ?_)
  · skip
    refine am_goto (pc := 188) (tgt := 887) C d_La_law_188 rfl ?_
    refine am_iinc (pc := 887) (y := (3 : Int32)) (lo1 := [some (.ref sb), some (.ref v1), some (.ref v2), some (.ref v3), some (.int (v4 + (3 : Int32))), none, none]) C d_La_law_887 rfl (by decide) (by decide) rfl ?_
    refine am_goto (pc := 890) (tgt := 23) C d_La_law_890 rfl ?_
    exact (hk23 v1 v2 v3 (v4 + (3 : Int32)) w hX (cells + 1) (slots + 6) (by omega) (by omega))
  · skip
    refine am_iconst (pc := 186) (v := (0 : Int32)) C d_La_law_186 (by decide) ?_
    exact am_lawret (pc := 187) C hA hret hlk d_La_law_187 (by omega) (by omega) hr1 hX
def s_La_law_878 (L : Nat) (xs : Nat → Int32) (k23 : Nat → Nat → Nat → Int32 → am_w → Option (Int32 × am_w)) (v1 : Nat) (v2 : Nat) (v3 : Nat) (v4 : Int32) (s0 : Int32) (s1 : Int32) (w : am_w) : Option (Int32 × am_w) := (if (lg_cmp (Int32.toInt64 s1) (Int32.toInt64 s0)) = 0 then (k23 v1 v2 v3 (v4 + (3 : Int32)) w) else (some ((0 : Int32), w)))
set_option maxHeartbeats 4000000 in
theorem L_La_law_878 {p : Program} {l : Launch} {e : Env} {s : State} {m : MethodId} {below : List Frame} {meth : Method} {c : Code} {D : va_G} {A : Nat → Prop} {sb L : Nat} {xs : Nat → Int32} {r : Int32 × am_w} (C : am_C p m c code 7 s #[Value.ref sb] am_W "RoverMinutesLaw" D classes A) (hl : l.stackTraces = false) (hret : meth.sig.returnType = ret) (hlk : meth.locks = false) (hA : ∀ q, A q → s.heap.size ≤ q) (hsc : va_X sb L xs s s.heap) (hsb : sb < s.heap.size) (hr1 : r.1 = 1) {k23 : Nat → Nat → Nat → Int32 → am_w → Option (Int32 × am_w)} {n : Nat} (hk23 : ∀ (v1 : Nat) (v2 : Nat) (v3 : Nat) (v4 : Int32) (w : am_w), k23 v1 v2 v3 v4 w = some r → ∀ cells slots, cells + n ≤ 631199 → slots + 6 * n ≤ 7202507 → am_V p l e room_1 s m #[Value.ref sb] below meth c D classes tys A (am_F A true) 7 cells slots (lw_Z below #[Value.ref sb] s) 23 [some (.ref sb), some (.ref v1), some (.ref v2), some (.ref v3), some (.int v4), none, none] [] w) {cells slots : Nat} (hc : cells + (n + 1) ≤ 631199) (hs : slots + 6 * (n + 1) ≤ 7202507) : ∀ (v1 : Nat) (v2 : Nat) (v3 : Nat) (v4 : Int32) (s0 : Int32) (s1 : Int32) (w : am_w), s_La_law_878 L xs k23 v1 v2 v3 v4 s0 s1 w = some r → am_V p l e room_1 s m #[Value.ref sb] below meth c D classes tys A (am_F A true) 7 (cells + 1) (slots + 6) (lw_Z below #[Value.ref sb] s) 878 [some (.ref sb), some (.ref v1), some (.ref v2), some (.ref v3), some (.int v4), none, none] [.long (Int32.toInt64 s0), .long (Int32.toInt64 s1)] w := by
  intro v1 v2 v3 v4 s0 s1 w hX
  unfold s_La_law_878 at hX
  refine am_lcmp (pc := 878) C d_La_law_878 ?_
  refine am_if_eq (pc := 879) (tgt := 884) C d_La_law_879 rfl hX (fun hX => ?_) (fun hX => ?_)
  · skip
    refine am_goto (pc := 884) (tgt := 887) C d_La_law_884 rfl ?_
    refine am_iinc (pc := 887) (y := (3 : Int32)) (lo1 := [some (.ref sb), some (.ref v1), some (.ref v2), some (.ref v3), some (.int (v4 + (3 : Int32))), none, none]) C d_La_law_887 rfl (by decide) (by decide) rfl ?_
    refine am_goto (pc := 890) (tgt := 23) C d_La_law_890 rfl ?_
    exact (hk23 v1 v2 v3 (v4 + (3 : Int32)) w hX (cells + 1) (slots + 6) (by omega) (by omega))
  · skip
    refine am_iconst (pc := 882) (v := (0 : Int32)) C d_La_law_882 (by decide) ?_
    exact am_lawret (pc := 883) C hA hret hlk d_La_law_883 (by omega) (by omega) hr1 hX
def s_La_law_23 (L : Nat) (xs : Nat → Int32) (k23 : Nat → Nat → Nat → Int32 → am_w → Option (Int32 × am_w)) (v1 : Nat) (v2 : Nat) (v3 : Nat) (v4 : Int32) (w : am_w) : Option (Int32 × am_w) := (if ((Int32.ofNat L) - (3 : Int32)) < v4 then (some ((1 : Int32), w)) else ((am_sg L xs v4).bind fun x9 => (if (x9 &&& (31 : Int32)) = (0 : Int32) then ((am_sg L xs (v4 + (1 : Int32))).bind fun x10 => ((f_La_type v1 x10 v3 w).bind fun q11 => ((am_sg L xs (v4 + (1 : Int32))).bind fun x12 => ((am_ob 7 v2 q11.2 (f_Mo_type v2 x12 q11.2)).bind fun q13 => ((am_ob 7 v2 q13.2 (f_Mo_thrown v2 q13.2)).bind fun q14 => (if q14.1 = q11.1 then (if q11.1 = 0 then ((am_lg v3 (0 : Int32) q14.2).bind fun x15 => (if q13.1 = 0 then (s_La_law_182 L xs k23 v1 v2 v3 v4 (0 : Int32) x15 q14.2) else (s_La_law_182 L xs k23 v1 v2 v3 v4 (1 : Int32) x15 q14.2))) else (k23 v1 v2 v3 (v4 + (3 : Int32)) q14.2)) else (some ((0 : Int32), q14.2)))))))) else (if (x9 &&& (31 : Int32)) = (1 : Int32) then ((f_La_submit v1 v3 w).bind fun q16 => ((am_ob 7 v2 q16.2 (f_Mo_submit v2 q16.2)).bind fun q17 => ((am_ob 7 v2 q17.2 (f_Mo_thrown v2 q17.2)).bind fun q18 => (if q18.1 = q16.1 then (if q16.1 = 0 then ((am_lg v3 (0 : Int32) q18.2).bind fun x19 => (if (lg_cmp (Int32.toInt64 x19) (Int32.toInt64 q17.1)) = 0 then (k23 v1 v2 v3 (v4 + (3 : Int32)) q18.2) else (some ((0 : Int32), q18.2)))) else (k23 v1 v2 v3 (v4 + (3 : Int32)) q18.2)) else (some ((0 : Int32), q18.2)))))) else (if (x9 &&& (31 : Int32)) = (2 : Int32) then ((f_La_enable v1 v3 w).bind fun q20 => ((am_ob 7 v2 q20.2 (f_Mo_enable v2 q20.2)).bind fun q21 => ((am_ob 7 v2 q21.2 (f_Mo_thrown v2 q21.2)).bind fun q22 => (if q22.1 = q20.1 then (if q20.1 = 0 then ((am_lg v3 (0 : Int32) q22.2).bind fun x23 => (if (lg_cmp (Int32.toInt64 x23) (Int32.toInt64 q21.1)) = 0 then (k23 v1 v2 v3 (v4 + (3 : Int32)) q22.2) else (some ((0 : Int32), q22.2)))) else (k23 v1 v2 v3 (v4 + (3 : Int32)) q22.2)) else (some ((0 : Int32), q22.2)))))) else (if (x9 &&& (31 : Int32)) = (3 : Int32) then ((f_La_cancel v1 w).bind fun q24 => ((am_ob 7 v2 q24.2 (f_Mo_cancel v2 q24.2)).bind fun q25 => ((am_ob 7 v2 q25.2 (f_Mo_thrown v2 q25.2)).bind fun q26 => (if q26.1 = q24.1 then (k23 v1 v2 v3 (v4 + (3 : Int32)) q26.2) else (some ((0 : Int32), q26.2)))))) else (if (x9 &&& (31 : Int32)) = (4 : Int32) then ((am_sg L xs (v4 + (1 : Int32))).bind fun x27 => ((f_La_minutes v1 x27 v3 w).bind fun q28 => ((am_sg L xs (v4 + (1 : Int32))).bind fun x29 => ((am_ob 7 v2 q28.2 (f_Mo_minutes v2 x29 q28.2)).bind fun q30 => ((am_ob 7 v2 q30.2 (f_Mo_thrown v2 q30.2)).bind fun q31 => (if q31.1 = q28.1 then (if q28.1 = 0 then ((am_lg v3 (0 : Int32) q31.2).bind fun x32 => (if (lg_cmp (Int32.toInt64 x32) (Int32.toInt64 q30.1)) = 0 then (k23 v1 v2 v3 (v4 + (3 : Int32)) q31.2) else (some ((0 : Int32), q31.2)))) else (k23 v1 v2 v3 (v4 + (3 : Int32)) q31.2)) else (some ((0 : Int32), q31.2)))))))) else (if (x9 &&& (31 : Int32)) = (5 : Int32) then ((am_sg L xs (v4 + (1 : Int32))).bind fun x33 => ((am_sg L xs (v4 + (2 : Int32))).bind fun x34 => ((f_La_lasts v1 x33 x34 w).bind fun q35 => ((am_sg L xs (v4 + (1 : Int32))).bind fun x36 => ((am_sg L xs (v4 + (2 : Int32))).bind fun x37 => ((am_ob 7 v2 q35.2 (f_Mo_lasts v2 x36 x37 q35.2)).bind fun q38 => ((am_ob 7 v2 q38.2 (f_Mo_thrown v2 q38.2)).bind fun q39 => (if q39.1 = q35.1 then (k23 v1 v2 v3 (v4 + (3 : Int32)) q39.2) else (some ((0 : Int32), q39.2)))))))))) else (if (x9 &&& (31 : Int32)) = (6 : Int32) then ((am_sg L xs (v4 + (1 : Int32))).bind fun x40 => ((am_sg L xs (v4 + (2 : Int32))).bind fun x41 => ((f_La_draws v1 x40 x41 w).bind fun q42 => ((am_sg L xs (v4 + (1 : Int32))).bind fun x43 => ((am_sg L xs (v4 + (2 : Int32))).bind fun x44 => ((am_ob 7 v2 q42.2 (f_Mo_draws v2 x43 x44 q42.2)).bind fun q45 => ((am_ob 7 v2 q45.2 (f_Mo_thrown v2 q45.2)).bind fun q46 => (if q46.1 = q42.1 then (k23 v1 v2 v3 (v4 + (3 : Int32)) q46.2) else (some ((0 : Int32), q46.2)))))))))) else (if (x9 &&& (31 : Int32)) = (7 : Int32) then ((am_sg L xs (v4 + (1 : Int32))).bind fun x47 => ((am_sg L xs (v4 + (2 : Int32))).bind fun x48 => ((f_La_curve v1 x47 x48 w).bind fun q49 => ((am_sg L xs (v4 + (1 : Int32))).bind fun x50 => ((am_sg L xs (v4 + (2 : Int32))).bind fun x51 => ((am_ob 7 v2 q49.2 (f_Mo_curve v2 x50 x51 q49.2)).bind fun q52 => ((am_ob 7 v2 q52.2 (f_Mo_thrown v2 q52.2)).bind fun q53 => (if q53.1 = q49.1 then (k23 v1 v2 v3 (v4 + (3 : Int32)) q53.2) else (some ((0 : Int32), q53.2)))))))))) else (if (x9 &&& (31 : Int32)) = (8 : Int32) then ((am_sg L xs (v4 + (1 : Int32))).bind fun x54 => ((f_La_gain v1 x54 w).bind fun q55 => ((am_sg L xs (v4 + (1 : Int32))).bind fun x56 => ((am_ob 7 v2 q55.2 (f_Mo_gain v2 x56 q55.2)).bind fun q57 => ((am_ob 7 v2 q57.2 (f_Mo_thrown v2 q57.2)).bind fun q58 => (if q58.1 = q55.1 then (k23 v1 v2 v3 (v4 + (3 : Int32)) q58.2) else (some ((0 : Int32), q58.2)))))))) else (if (x9 &&& (31 : Int32)) = (9 : Int32) then ((am_sg L xs (v4 + (1 : Int32))).bind fun x59 => ((am_sg L xs (v4 + (2 : Int32))).bind fun x60 => ((f_La_home v1 x59 x60 w).bind fun q61 => ((am_sg L xs (v4 + (1 : Int32))).bind fun x62 => ((am_sg L xs (v4 + (2 : Int32))).bind fun x63 => ((am_ob 7 v2 q61.2 (f_Mo_home v2 x62 x63 q61.2)).bind fun q64 => ((am_ob 7 v2 q64.2 (f_Mo_thrown v2 q64.2)).bind fun q65 => (if q65.1 = q61.1 then (k23 v1 v2 v3 (v4 + (3 : Int32)) q65.2) else (some ((0 : Int32), q65.2)))))))))) else (if (x9 &&& (31 : Int32)) = (10 : Int32) then ((am_sg L xs (v4 + (1 : Int32))).bind fun x66 => ((am_sg L xs (v4 + (2 : Int32))).bind fun x67 => ((f_La_fill v1 x66 x67 w).bind fun q68 => ((am_sg L xs (v4 + (1 : Int32))).bind fun x69 => ((am_sg L xs (v4 + (2 : Int32))).bind fun x70 => ((am_ob 7 v2 q68.2 (f_Mo_fill v2 x69 x70 q68.2)).bind fun q71 => ((am_ob 7 v2 q71.2 (f_Mo_thrown v2 q71.2)).bind fun q72 => (if q72.1 = q68.1 then (k23 v1 v2 v3 (v4 + (3 : Int32)) q72.2) else (some ((0 : Int32), q72.2)))))))))) else (if (x9 &&& (31 : Int32)) = (11 : Int32) then ((am_ob 0 v1 w (f_Rm_now v1 w)).bind fun q73 => ((am_ob 7 v2 q73.2 (f_Mo_now v2 q73.2)).bind fun q74 => (if q73.1 = q74.1 then (k23 v1 v2 v3 (v4 + (3 : Int32)) q74.2) else (some ((0 : Int32), q74.2))))) else (if (x9 &&& (31 : Int32)) = (12 : Int32) then ((am_ob 0 v1 w (f_Rm_mode v1 w)).bind fun q75 => ((am_ob 7 v2 q75.2 (f_Mo_mode v2 q75.2)).bind fun q76 => (if q75.1 = q76.1 then (k23 v1 v2 v3 (v4 + (3 : Int32)) q76.2) else (some ((0 : Int32), q76.2))))) else (if (x9 &&& (31 : Int32)) = (13 : Int32) then ((am_sg L xs (v4 + (1 : Int32))).bind fun x77 => ((f_La_level v1 x77 v3 w).bind fun q78 => ((am_sg L xs (v4 + (1 : Int32))).bind fun x79 => ((am_ob 7 v2 q78.2 (f_Mo_level v2 x79 q78.2)).bind fun q80 => ((am_ob 7 v2 q80.2 (f_Mo_thrown v2 q80.2)).bind fun q81 => (if q81.1 = q78.1 then (if q78.1 = 0 then ((am_lg v3 (0 : Int32) q81.2).bind fun x82 => (if (lg_cmp (Int32.toInt64 x82) (Int32.toInt64 q80.1)) = 0 then (k23 v1 v2 v3 (v4 + (3 : Int32)) q81.2) else (some ((0 : Int32), q81.2)))) else (k23 v1 v2 v3 (v4 + (3 : Int32)) q81.2)) else (some ((0 : Int32), q81.2)))))))) else (if (x9 &&& (31 : Int32)) = (14 : Int32) then ((am_ob 0 v1 w (f_Rm_reserve v1 w)).bind fun q83 => ((am_ob 7 v2 q83.2 (f_Mo_reserve v2 q83.2)).bind fun q84 => (if q83.1 = q84.1 then (k23 v1 v2 v3 (v4 + (3 : Int32)) q84.2) else (some ((0 : Int32), q84.2))))) else (if (x9 &&& (31 : Int32)) = (15 : Int32) then ((am_ob 0 v1 w (f_Rm_activities v1 w)).bind fun q85 => ((am_ob 7 v2 q85.2 (f_Mo_activities v2 q85.2)).bind fun q86 => (if q85.1 = q86.1 then (k23 v1 v2 v3 (v4 + (3 : Int32)) q86.2) else (some ((0 : Int32), q86.2))))) else (if (x9 &&& (31 : Int32)) = (16 : Int32) then ((am_sg L xs (v4 + (1 : Int32))).bind fun x87 => ((am_sg L xs (v4 + (2 : Int32))).bind fun x88 => ((f_La_activity v1 x87 x88 v3 w).bind fun q89 => ((am_sg L xs (v4 + (1 : Int32))).bind fun x90 => ((am_sg L xs (v4 + (2 : Int32))).bind fun x91 => ((am_ob 7 v2 q89.2 (f_Mo_activity v2 x90 x91 q89.2)).bind fun q92 => ((am_ob 7 v2 q92.2 (f_Mo_thrown v2 q92.2)).bind fun q93 => (if q93.1 = q89.1 then (if q89.1 = 0 then ((am_lg v3 (0 : Int32) q93.2).bind fun x94 => (if (lg_cmp (Int32.toInt64 x94) (Int32.toInt64 q92.1)) = 0 then (k23 v1 v2 v3 (v4 + (3 : Int32)) q93.2) else (some ((0 : Int32), q93.2)))) else (k23 v1 v2 v3 (v4 + (3 : Int32)) q93.2)) else (some ((0 : Int32), q93.2)))))))))) else (if (x9 &&& (31 : Int32)) = (17 : Int32) then ((am_ob 0 v1 w (f_Rm_lowest v1 w)).bind fun q95 => ((am_ob 7 v2 q95.2 (f_Mo_lowest v2 q95.2)).bind fun q96 => (if q95.1 = q96.1 then (k23 v1 v2 v3 (v4 + (3 : Int32)) q96.2) else (some ((0 : Int32), q96.2))))) else (if (x9 &&& (31 : Int32)) = (18 : Int32) then ((am_sg L xs (v4 + (1 : Int32))).bind fun x97 => ((f_La_could v1 x97 v3 w).bind fun q98 => ((am_sg L xs (v4 + (1 : Int32))).bind fun x99 => ((am_ob 7 v2 q98.2 (f_Mo_could v2 x99 q98.2)).bind fun q100 => ((am_ob 7 v2 q100.2 (f_Mo_thrown v2 q100.2)).bind fun q101 => (if q101.1 = q98.1 then (if q98.1 = 0 then ((am_lg v3 (0 : Int32) q101.2).bind fun x102 => (if q100.1 = 0 then (s_La_law_878 L xs k23 v1 v2 v3 v4 (0 : Int32) x102 q101.2) else (s_La_law_878 L xs k23 v1 v2 v3 v4 (1 : Int32) x102 q101.2))) else (k23 v1 v2 v3 (v4 + (3 : Int32)) q101.2)) else (some ((0 : Int32), q101.2)))))))) else (k23 v1 v2 v3 (v4 + (3 : Int32)) w))))))))))))))))))))))
def f_La_law_23 (L : Nat) (xs : Nat → Int32) (n : Nat) : Nat → Nat → Nat → Int32 → am_w → Option (Int32 × am_w) := am_it (fun _ _ _ _ _ => none) (s_La_law_23 L xs) n
set_option maxHeartbeats 4000000 in
theorem L_La_law_23 {p : Program} {l : Launch} {e : Env} {s : State} {m : MethodId} {below : List Frame} {meth : Method} {c : Code} {D : va_G} {A : Nat → Prop} {sb L : Nat} {xs : Nat → Int32} {r : Int32 × am_w} (C : am_C p m c code 7 s #[Value.ref sb] am_W "RoverMinutesLaw" D classes A) (hl : l.stackTraces = false) (hret : meth.sig.returnType = ret) (hlk : meth.locks = false) (hA : ∀ q, A q → s.heap.size ≤ q) (hsc : va_X sb L xs s s.heap) (hsb : sb < s.heap.size) (hr1 : r.1 = 1) (n : Nat) : ∀ (v1 : Nat) (v2 : Nat) (v3 : Nat) (v4 : Int32) (w : am_w), f_La_law_23 L xs n v1 v2 v3 v4 w = some r → ∀ cells slots, cells + n ≤ 631199 → slots + 6 * n ≤ 7202507 → am_V p l e room_1 s m #[Value.ref sb] below meth c D classes tys A (am_F A true) 7 cells slots (lw_Z below #[Value.ref sb] s) 23 [some (.ref sb), some (.ref v1), some (.ref v2), some (.ref v3), some (.int v4), none, none] [] w := by
  refine am_it_indn (P := fun (n : Nat) (t : Nat → Nat → Nat → Int32 → am_w → Option (Int32 × am_w)) => ∀ (v1 : Nat) (v2 : Nat) (v3 : Nat) (v4 : Int32) (w : am_w), t v1 v2 v3 v4 w = some r → ∀ cells slots, cells + n ≤ 631199 → slots + 6 * n ≤ 7202507 → am_V p l e room_1 s m #[Value.ref sb] below meth c D classes tys A (am_F A true) 7 cells slots (lw_Z below #[Value.ref sb] s) 23 [some (.ref sb), some (.ref v1), some (.ref v2), some (.ref v3), some (.int v4), none, none] [] w) ?_ ?_ n
  · intro v1 v2 v3 v4 w hX
    exact (am_nn hX).elim
  · intro n k23 hk23 v1 v2 v3 v4 w hX cells slots hc hs
    unfold s_La_law_23 at hX
    refine am_iload (pc := 23) C d_La_law_23 rfl ?_
    refine am_aload_n (pc := 25) C d_La_law_25 rfl rfl ?_
    refine am_slen (pc := 26) C hA hsc hsb d_La_law_26 ?_
    refine am_iconst (pc := 27) (v := (3 : Int32)) C d_La_law_27 (by decide) ?_
    refine am_isub (pc := 28) C d_La_law_28 ?_
    refine am_icmp_gt (pc := 29) (tgt := 893) C d_La_law_29 rfl hX (fun hX => ?_) (fun hX => ?_)
    · skip
      refine am_iconst (pc := 893) (v := (1 : Int32)) C d_La_law_893 (by decide) ?_
      exact am_lawret (pc := 894) C hA hret hlk d_La_law_894 (by omega) (by omega) hr1 hX
    · skip
      refine am_aload_n (pc := 32) C d_La_law_32 rfl rfl ?_
      refine am_iload (pc := 33) C d_La_law_33 rfl ?_
      refine am_sld (pc := 35) C hA hsc hsb d_La_law_35 hX (fun x9 hX => ?_)
      refine am_bipush (pc := 36) (v := (31 : Int32)) C d_La_law_36 (by decide) ?_
      refine am_iand (pc := 38) C d_La_law_38 ?_
      refine am_tsw (pc := 39) (k := (0 : Int32)) (tgt := 128) C d_La_law_39 (by decide) (by decide) rfl rfl hX (fun hX => ?_) (fun hn39_0 hX => ?_)
      · skip
        refine am_aload_n (pc := 128) C d_La_law_128 rfl rfl ?_
        refine am_aload_n (pc := 129) C d_La_law_129 rfl rfl ?_
        refine am_iload (pc := 130) C d_La_law_130 rfl ?_
        refine am_iconst (pc := 132) (v := (1 : Int32)) C d_La_law_132 (by decide) ?_
        refine am_iadd (pc := 133) C d_La_law_133 ?_
        refine am_sld (pc := 134) C hA hsc hsb d_La_law_134 hX (fun x10 hX => ?_)
        refine am_aload_n (pc := 135) C d_La_law_135 rfl rfl ?_
        refine am_callSW (pc := 136) (As := [.ref v1, .int x10, .ref v3]) (st := []) (cells1 := (cells + 1)) (slots1 := (slots + 6)) C (fun _ h => h.2) (fun _ h => h) (fun q h => c_La_type hl h) wd_2_95 wd_2_96 wd_1_0 wd_2_97 rfl rfl hd_La_type ⟨by decide, by decide⟩ rfl (Nat.le_of_ble_eq_true rfl) d_La_law_136 ⟨by show cells + 1 ≤ 631199; omega, by show slots + 6 ≤ 7202507; omega⟩ rfl rfl rfl hX (fun q11 hX => ?_)
        refine am_istore (pc := 139) (lo1 := [some (.ref sb), some (.ref v1), some (.ref v2), some (.ref v3), some (.int v4), some (.int q11.1), none]) C d_La_law_139 (by decide) rfl ?_
        refine am_aload_n (pc := 141) C d_La_law_141 rfl rfl ?_
        refine am_aload_n (pc := 142) C d_La_law_142 rfl rfl ?_
        refine am_iload (pc := 143) C d_La_law_143 rfl ?_
        refine am_iconst (pc := 145) (v := (1 : Int32)) C d_La_law_145 (by decide) ?_
        refine am_iadd (pc := 146) C d_La_law_146 ?_
        refine am_sld (pc := 147) C hA hsc hsb d_La_law_147 hX (fun x12 hX => ?_)
        refine am_callVi (pc := 148) (As := [.int x12]) (st := []) (cells1 := (cells + 1)) (slots1 := (slots + 6)) C (fun _ h => h.2) (fun _ h => h) (fun q h => c_Mo_type h) wd_4_198 wd_4_199 wd_4_200 wd_1_9 wd_4_201 rfl rfl hd_Mo_type ⟨by decide, by decide⟩ rfl rfl (Nat.le_of_ble_eq_true rfl) d_La_law_148 ⟨by show (cells + 1) + 0 ≤ 631199; omega, by show (slots + 6) + 0 ≤ 7202507; omega⟩ rfl rfl rfl hX (fun q13 hX => ?_)
        refine am_istore (pc := 151) (lo1 := [some (.ref sb), some (.ref v1), some (.ref v2), some (.ref v3), some (.int v4), some (.int q11.1), some (.int q13.1)]) C d_La_law_151 (by decide) rfl ?_
        refine am_aload_n (pc := 153) C d_La_law_153 rfl rfl ?_
        refine am_callVi (pc := 154) (As := []) (st := []) (cells1 := (cells + 1)) (slots1 := (slots + 6)) C (fun _ h => h.2) (fun _ h => by cases h.1) (fun q h => c_Mo_thrown h) wd_4_194 wd_4_195 wd_4_196 wd_1_9 wd_4_197 rfl rfl hd_Mo_thrown ⟨by decide, by decide⟩ rfl rfl (Nat.le_of_ble_eq_true rfl) d_La_law_154 ⟨by show (cells + 1) + 0 ≤ 631199; omega, by show (slots + 6) + 0 ≤ 7202507; omega⟩ rfl rfl rfl hX (fun q14 hX => ?_)
        refine am_iload (pc := 157) C d_La_law_157 rfl ?_
        refine am_icmp_eq (pc := 159) (tgt := 164) C d_La_law_159 rfl hX (fun hX => ?_) (fun hX => ?_)
        · skip
          refine am_iload (pc := 164) C d_La_law_164 rfl ?_
          refine am_if_ne (pc := 166) (tgt := 188) C d_La_law_166 rfl hX (fun hX => ?_) (fun hX => ?_)
          · skip
            refine am_goto (pc := 188) (tgt := 887) C d_La_law_188 rfl ?_
            refine am_iinc (pc := 887) (y := (3 : Int32)) (lo1 := [some (.ref sb), some (.ref v1), some (.ref v2), some (.ref v3), some (.int (v4 + (3 : Int32))), some (.int q11.1), some (.int q13.1)]) C d_La_law_887 rfl (by decide) (by decide) rfl ?_
            refine am_goto (pc := 890) (tgt := 23) C d_La_law_890 rfl ?_
            exact am_sub (am_le_s (am_le_s (am_le_s (am_le_s (am_le_s (am_le_n (am_le_n (am_le_0)))))))) (hk23 v1 v2 v3 (v4 + (3 : Int32)) q14.2 hX (cells + 1) (slots + 6) (by omega) (by omega))
          · skip
            refine am_aload_n (pc := 169) C d_La_law_169 rfl rfl ?_
            refine am_iconst (pc := 170) (v := (0 : Int32)) C d_La_law_170 (by decide) ?_
            refine am_lald (pc := 171) C d_La_law_171 hX (fun x15 hX => ?_)
            refine am_iload (pc := 172) C d_La_law_172 rfl ?_
            refine am_if_eq (pc := 174) (tgt := 181) C d_La_law_174 rfl hX (fun hX => ?_) (fun hX => ?_)
            · skip
              refine am_lconst (pc := 181) (v := Int32.toInt64 (0 : Int32)) C d_La_law_181 (by decide) ?_
              exact am_sub (am_le_s (am_le_s (am_le_s (am_le_s (am_le_s (am_le_n (am_le_n (am_le_0)))))))) (L_La_law_182 C hl hret hlk hA hsc hsb hr1 hk23 hc hs v1 v2 v3 v4 (0 : Int32) x15 q14.2 hX)
            · skip
              refine am_lconst (pc := 177) (v := Int32.toInt64 (1 : Int32)) C d_La_law_177 (by decide) ?_
              refine am_goto (pc := 178) (tgt := 182) C d_La_law_178 rfl ?_
              exact am_sub (am_le_s (am_le_s (am_le_s (am_le_s (am_le_s (am_le_n (am_le_n (am_le_0)))))))) (L_La_law_182 C hl hret hlk hA hsc hsb hr1 hk23 hc hs v1 v2 v3 v4 (1 : Int32) x15 q14.2 hX)
        · skip
          refine am_iconst (pc := 162) (v := (0 : Int32)) C d_La_law_162 (by decide) ?_
          exact am_lawret (pc := 163) C hA hret hlk d_La_law_163 (by omega) (by omega) hr1 hX
      refine am_tsw (pc := 39) (k := (1 : Int32)) (tgt := 191) C d_La_law_39 (by decide) (by decide) rfl rfl hX (fun hX => ?_) (fun hn39_1 hX => ?_)
      · skip
        refine am_aload_n (pc := 191) C d_La_law_191 rfl rfl ?_
        refine am_aload_n (pc := 192) C d_La_law_192 rfl rfl ?_
        refine am_callSW (pc := 193) (As := [.ref v1, .ref v3]) (st := []) (cells1 := (cells + 1)) (slots1 := (slots + 6)) C (fun _ h => h.2) (fun _ h => h) (fun q h => c_La_submit hl h) wd_2_180 wd_2_181 wd_1_0 wd_2_182 rfl rfl hd_La_submit ⟨by decide, by decide⟩ rfl (Nat.le_of_ble_eq_true rfl) d_La_law_193 ⟨by show cells + 1 ≤ 631199; omega, by show slots + 6 ≤ 7202507; omega⟩ rfl rfl rfl hX (fun q16 hX => ?_)
        refine am_istore (pc := 196) (lo1 := [some (.ref sb), some (.ref v1), some (.ref v2), some (.ref v3), some (.int v4), some (.int q16.1), none]) C d_La_law_196 (by decide) rfl ?_
        refine am_aload_n (pc := 198) C d_La_law_198 rfl rfl ?_
        refine am_callVi (pc := 199) (As := []) (st := []) (cells1 := (cells + 1)) (slots1 := (slots + 6)) C (fun _ h => h.2) (fun _ h => h) (fun q h => c_Mo_submit h) wd_4_202 wd_4_203 wd_4_204 wd_1_9 wd_4_205 rfl rfl hd_Mo_submit ⟨by decide, by decide⟩ rfl rfl (Nat.le_of_ble_eq_true rfl) d_La_law_199 ⟨by show (cells + 1) + 0 ≤ 631199; omega, by show (slots + 6) + 0 ≤ 7202507; omega⟩ rfl rfl rfl hX (fun q17 hX => ?_)
        refine am_istore (pc := 202) (lo1 := [some (.ref sb), some (.ref v1), some (.ref v2), some (.ref v3), some (.int v4), some (.int q16.1), some (.int q17.1)]) C d_La_law_202 (by decide) rfl ?_
        refine am_aload_n (pc := 204) C d_La_law_204 rfl rfl ?_
        refine am_callVi (pc := 205) (As := []) (st := []) (cells1 := (cells + 1)) (slots1 := (slots + 6)) C (fun _ h => h.2) (fun _ h => by cases h.1) (fun q h => c_Mo_thrown h) wd_4_194 wd_4_195 wd_4_196 wd_1_9 wd_4_197 rfl rfl hd_Mo_thrown ⟨by decide, by decide⟩ rfl rfl (Nat.le_of_ble_eq_true rfl) d_La_law_205 ⟨by show (cells + 1) + 0 ≤ 631199; omega, by show (slots + 6) + 0 ≤ 7202507; omega⟩ rfl rfl rfl hX (fun q18 hX => ?_)
        refine am_iload (pc := 208) C d_La_law_208 rfl ?_
        refine am_icmp_eq (pc := 210) (tgt := 215) C d_La_law_210 rfl hX (fun hX => ?_) (fun hX => ?_)
        · skip
          refine am_iload (pc := 215) C d_La_law_215 rfl ?_
          refine am_if_ne (pc := 217) (tgt := 232) C d_La_law_217 rfl hX (fun hX => ?_) (fun hX => ?_)
          · skip
            refine am_goto (pc := 232) (tgt := 887) C d_La_law_232 rfl ?_
            refine am_iinc (pc := 887) (y := (3 : Int32)) (lo1 := [some (.ref sb), some (.ref v1), some (.ref v2), some (.ref v3), some (.int (v4 + (3 : Int32))), some (.int q16.1), some (.int q17.1)]) C d_La_law_887 rfl (by decide) (by decide) rfl ?_
            refine am_goto (pc := 890) (tgt := 23) C d_La_law_890 rfl ?_
            exact am_sub (am_le_s (am_le_s (am_le_s (am_le_s (am_le_s (am_le_n (am_le_n (am_le_0)))))))) (hk23 v1 v2 v3 (v4 + (3 : Int32)) q18.2 hX (cells + 1) (slots + 6) (by omega) (by omega))
          · skip
            refine am_aload_n (pc := 220) C d_La_law_220 rfl rfl ?_
            refine am_iconst (pc := 221) (v := (0 : Int32)) C d_La_law_221 (by decide) ?_
            refine am_lald (pc := 222) C d_La_law_222 hX (fun x19 hX => ?_)
            refine am_iload (pc := 223) C d_La_law_223 rfl ?_
            refine am_i2l (pc := 225) C d_La_law_225 rfl ?_
            refine am_lcmp (pc := 226) C d_La_law_226 ?_
            refine am_if_eq (pc := 227) (tgt := 232) C d_La_law_227 rfl hX (fun hX => ?_) (fun hX => ?_)
            · skip
              refine am_goto (pc := 232) (tgt := 887) C d_La_law_232 rfl ?_
              refine am_iinc (pc := 887) (y := (3 : Int32)) (lo1 := [some (.ref sb), some (.ref v1), some (.ref v2), some (.ref v3), some (.int (v4 + (3 : Int32))), some (.int q16.1), some (.int q17.1)]) C d_La_law_887 rfl (by decide) (by decide) rfl ?_
              refine am_goto (pc := 890) (tgt := 23) C d_La_law_890 rfl ?_
              exact am_sub (am_le_s (am_le_s (am_le_s (am_le_s (am_le_s (am_le_n (am_le_n (am_le_0)))))))) (hk23 v1 v2 v3 (v4 + (3 : Int32)) q18.2 hX (cells + 1) (slots + 6) (by omega) (by omega))
            · skip
              refine am_iconst (pc := 230) (v := (0 : Int32)) C d_La_law_230 (by decide) ?_
              exact am_lawret (pc := 231) C hA hret hlk d_La_law_231 (by omega) (by omega) hr1 hX
        · skip
          refine am_iconst (pc := 213) (v := (0 : Int32)) C d_La_law_213 (by decide) ?_
          exact am_lawret (pc := 214) C hA hret hlk d_La_law_214 (by omega) (by omega) hr1 hX
      refine am_tsw (pc := 39) (k := (2 : Int32)) (tgt := 235) C d_La_law_39 (by decide) (by decide) rfl rfl hX (fun hX => ?_) (fun hn39_2 hX => ?_)
      · skip
        refine am_aload_n (pc := 235) C d_La_law_235 rfl rfl ?_
        refine am_aload_n (pc := 236) C d_La_law_236 rfl rfl ?_
        refine am_callSW (pc := 237) (As := [.ref v1, .ref v3]) (st := []) (cells1 := (cells + 1)) (slots1 := (slots + 6)) C (fun _ h => h.2) (fun _ h => h) (fun q h => c_La_enable hl h) wd_3_120 wd_3_121 wd_1_0 wd_3_122 rfl rfl hd_La_enable ⟨by decide, by decide⟩ rfl (Nat.le_of_ble_eq_true rfl) d_La_law_237 ⟨by show cells + 1 ≤ 631199; omega, by show slots + 6 ≤ 7202507; omega⟩ rfl rfl rfl hX (fun q20 hX => ?_)
        refine am_istore (pc := 240) (lo1 := [some (.ref sb), some (.ref v1), some (.ref v2), some (.ref v3), some (.int v4), some (.int q20.1), none]) C d_La_law_240 (by decide) rfl ?_
        refine am_aload_n (pc := 242) C d_La_law_242 rfl rfl ?_
        refine am_callVi (pc := 243) (As := []) (st := []) (cells1 := (cells + 1)) (slots1 := (slots + 6)) C (fun _ h => h.2) (fun _ h => h) (fun q h => c_Mo_enable h) wd_5_21 wd_5_22 wd_5_23 wd_1_9 wd_5_24 rfl rfl hd_Mo_enable ⟨by decide, by decide⟩ rfl rfl (Nat.le_of_ble_eq_true rfl) d_La_law_243 ⟨by show (cells + 1) + 0 ≤ 631199; omega, by show (slots + 6) + 0 ≤ 7202507; omega⟩ rfl rfl rfl hX (fun q21 hX => ?_)
        refine am_istore (pc := 246) (lo1 := [some (.ref sb), some (.ref v1), some (.ref v2), some (.ref v3), some (.int v4), some (.int q20.1), some (.int q21.1)]) C d_La_law_246 (by decide) rfl ?_
        refine am_aload_n (pc := 248) C d_La_law_248 rfl rfl ?_
        refine am_callVi (pc := 249) (As := []) (st := []) (cells1 := (cells + 1)) (slots1 := (slots + 6)) C (fun _ h => h.2) (fun _ h => by cases h.1) (fun q h => c_Mo_thrown h) wd_4_194 wd_4_195 wd_4_196 wd_1_9 wd_4_197 rfl rfl hd_Mo_thrown ⟨by decide, by decide⟩ rfl rfl (Nat.le_of_ble_eq_true rfl) d_La_law_249 ⟨by show (cells + 1) + 0 ≤ 631199; omega, by show (slots + 6) + 0 ≤ 7202507; omega⟩ rfl rfl rfl hX (fun q22 hX => ?_)
        refine am_iload (pc := 252) C d_La_law_252 rfl ?_
        refine am_icmp_eq (pc := 254) (tgt := 259) C d_La_law_254 rfl hX (fun hX => ?_) (fun hX => ?_)
        · skip
          refine am_iload (pc := 259) C d_La_law_259 rfl ?_
          refine am_if_ne (pc := 261) (tgt := 276) C d_La_law_261 rfl hX (fun hX => ?_) (fun hX => ?_)
          · skip
            refine am_goto (pc := 276) (tgt := 887) C d_La_law_276 rfl ?_
            refine am_iinc (pc := 887) (y := (3 : Int32)) (lo1 := [some (.ref sb), some (.ref v1), some (.ref v2), some (.ref v3), some (.int (v4 + (3 : Int32))), some (.int q20.1), some (.int q21.1)]) C d_La_law_887 rfl (by decide) (by decide) rfl ?_
            refine am_goto (pc := 890) (tgt := 23) C d_La_law_890 rfl ?_
            exact am_sub (am_le_s (am_le_s (am_le_s (am_le_s (am_le_s (am_le_n (am_le_n (am_le_0)))))))) (hk23 v1 v2 v3 (v4 + (3 : Int32)) q22.2 hX (cells + 1) (slots + 6) (by omega) (by omega))
          · skip
            refine am_aload_n (pc := 264) C d_La_law_264 rfl rfl ?_
            refine am_iconst (pc := 265) (v := (0 : Int32)) C d_La_law_265 (by decide) ?_
            refine am_lald (pc := 266) C d_La_law_266 hX (fun x23 hX => ?_)
            refine am_iload (pc := 267) C d_La_law_267 rfl ?_
            refine am_i2l (pc := 269) C d_La_law_269 rfl ?_
            refine am_lcmp (pc := 270) C d_La_law_270 ?_
            refine am_if_eq (pc := 271) (tgt := 276) C d_La_law_271 rfl hX (fun hX => ?_) (fun hX => ?_)
            · skip
              refine am_goto (pc := 276) (tgt := 887) C d_La_law_276 rfl ?_
              refine am_iinc (pc := 887) (y := (3 : Int32)) (lo1 := [some (.ref sb), some (.ref v1), some (.ref v2), some (.ref v3), some (.int (v4 + (3 : Int32))), some (.int q20.1), some (.int q21.1)]) C d_La_law_887 rfl (by decide) (by decide) rfl ?_
              refine am_goto (pc := 890) (tgt := 23) C d_La_law_890 rfl ?_
              exact am_sub (am_le_s (am_le_s (am_le_s (am_le_s (am_le_s (am_le_n (am_le_n (am_le_0)))))))) (hk23 v1 v2 v3 (v4 + (3 : Int32)) q22.2 hX (cells + 1) (slots + 6) (by omega) (by omega))
            · skip
              refine am_iconst (pc := 274) (v := (0 : Int32)) C d_La_law_274 (by decide) ?_
              exact am_lawret (pc := 275) C hA hret hlk d_La_law_275 (by omega) (by omega) hr1 hX
        · skip
          refine am_iconst (pc := 257) (v := (0 : Int32)) C d_La_law_257 (by decide) ?_
          exact am_lawret (pc := 258) C hA hret hlk d_La_law_258 (by omega) (by omega) hr1 hX
      refine am_tsw (pc := 39) (k := (3 : Int32)) (tgt := 279) C d_La_law_39 (by decide) (by decide) rfl rfl hX (fun hX => ?_) (fun hn39_3 hX => ?_)
      · skip
        refine am_aload_n (pc := 279) C d_La_law_279 rfl rfl ?_
        refine am_callSW (pc := 280) (As := [.ref v1]) (st := []) (cells1 := (cells + 1)) (slots1 := (slots + 6)) C (fun _ h => h.2) (fun _ h => h) (fun q h => c_La_cancel hl h) wd_3_182 wd_3_183 wd_1_0 wd_3_184 rfl rfl hd_La_cancel ⟨by decide, by decide⟩ rfl (Nat.le_of_ble_eq_true rfl) d_La_law_280 ⟨by show cells + 1 ≤ 631199; omega, by show slots + 6 ≤ 7202507; omega⟩ rfl rfl rfl hX (fun q24 hX => ?_)
        refine am_istore (pc := 283) (lo1 := [some (.ref sb), some (.ref v1), some (.ref v2), some (.ref v3), some (.int v4), some (.int q24.1), none]) C d_La_law_283 (by decide) rfl ?_
        refine am_aload_n (pc := 285) C d_La_law_285 rfl rfl ?_
        refine am_callVv (pc := 286) (As := []) (st := []) (cells1 := (cells + 1)) (slots1 := (slots + 6)) C (fun _ h => h.2) (fun _ h => h) (fun q h => c_Mo_cancel h) wd_5_69 wd_5_70 wd_5_71 wd_1_9 wd_5_72 rfl rfl hd_Mo_cancel ⟨by decide, by decide⟩ rfl rfl (Nat.le_of_ble_eq_true rfl) d_La_law_286 ⟨by show (cells + 1) + 0 ≤ 631199; omega, by show (slots + 6) + 0 ≤ 7202507; omega⟩ rfl rfl rfl hX (fun q25 hX => ?_)
        refine am_aload_n (pc := 289) C d_La_law_289 rfl rfl ?_
        refine am_callVi (pc := 290) (As := []) (st := []) (cells1 := (cells + 1)) (slots1 := (slots + 6)) C (fun _ h => h.2) (fun _ h => by cases h.1) (fun q h => c_Mo_thrown h) wd_4_194 wd_4_195 wd_4_196 wd_1_9 wd_4_197 rfl rfl hd_Mo_thrown ⟨by decide, by decide⟩ rfl rfl (Nat.le_of_ble_eq_true rfl) d_La_law_290 ⟨by show (cells + 1) + 0 ≤ 631199; omega, by show (slots + 6) + 0 ≤ 7202507; omega⟩ rfl rfl rfl hX (fun q26 hX => ?_)
        refine am_iload (pc := 293) C d_La_law_293 rfl ?_
        refine am_icmp_eq (pc := 295) (tgt := 300) C d_La_law_295 rfl hX (fun hX => ?_) (fun hX => ?_)
        · skip
          refine am_goto (pc := 300) (tgt := 887) C d_La_law_300 rfl ?_
          refine am_iinc (pc := 887) (y := (3 : Int32)) (lo1 := [some (.ref sb), some (.ref v1), some (.ref v2), some (.ref v3), some (.int (v4 + (3 : Int32))), some (.int q24.1), none]) C d_La_law_887 rfl (by decide) (by decide) rfl ?_
          refine am_goto (pc := 890) (tgt := 23) C d_La_law_890 rfl ?_
          exact am_sub (am_le_s (am_le_s (am_le_s (am_le_s (am_le_s (am_le_n (am_le_n (am_le_0)))))))) (hk23 v1 v2 v3 (v4 + (3 : Int32)) q26.2 hX (cells + 1) (slots + 6) (by omega) (by omega))
        · skip
          refine am_iconst (pc := 298) (v := (0 : Int32)) C d_La_law_298 (by decide) ?_
          exact am_lawret (pc := 299) C hA hret hlk d_La_law_299 (by omega) (by omega) hr1 hX
      refine am_tsw (pc := 39) (k := (4 : Int32)) (tgt := 303) C d_La_law_39 (by decide) (by decide) rfl rfl hX (fun hX => ?_) (fun hn39_4 hX => ?_)
      · skip
        refine am_aload_n (pc := 303) C d_La_law_303 rfl rfl ?_
        refine am_aload_n (pc := 304) C d_La_law_304 rfl rfl ?_
        refine am_iload (pc := 305) C d_La_law_305 rfl ?_
        refine am_iconst (pc := 307) (v := (1 : Int32)) C d_La_law_307 (by decide) ?_
        refine am_iadd (pc := 308) C d_La_law_308 ?_
        refine am_sld (pc := 309) C hA hsc hsb d_La_law_309 hX (fun x27 hX => ?_)
        refine am_aload_n (pc := 310) C d_La_law_310 rfl rfl ?_
        refine am_callSW (pc := 311) (As := [.ref v1, .int x27, .ref v3]) (st := []) (cells1 := (cells + 1)) (slots1 := (slots + 6)) C (fun _ h => h.2) (fun _ h => h) (fun q h => c_La_minutes hl h) wd_3_197 wd_3_198 wd_1_0 wd_3_199 rfl rfl hd_La_minutes ⟨by decide, by decide⟩ rfl (Nat.le_of_ble_eq_true rfl) d_La_law_311 ⟨by show cells + 1 ≤ 631199; omega, by show slots + 6 ≤ 7202507; omega⟩ rfl rfl rfl hX (fun q28 hX => ?_)
        refine am_istore (pc := 314) (lo1 := [some (.ref sb), some (.ref v1), some (.ref v2), some (.ref v3), some (.int v4), some (.int q28.1), none]) C d_La_law_314 (by decide) rfl ?_
        refine am_aload_n (pc := 316) C d_La_law_316 rfl rfl ?_
        refine am_aload_n (pc := 317) C d_La_law_317 rfl rfl ?_
        refine am_iload (pc := 318) C d_La_law_318 rfl ?_
        refine am_iconst (pc := 320) (v := (1 : Int32)) C d_La_law_320 (by decide) ?_
        refine am_iadd (pc := 321) C d_La_law_321 ?_
        refine am_sld (pc := 322) C hA hsc hsb d_La_law_322 hX (fun x29 hX => ?_)
        refine am_callVi (pc := 323) (As := [.int x29]) (st := []) (cells1 := (cells + 1)) (slots1 := (slots + 6)) C (fun _ h => h.2) (fun _ h => h) (fun q h => c_Mo_minutes h) wd_5_77 wd_5_78 wd_5_79 wd_1_9 wd_5_80 rfl rfl hd_Mo_minutes ⟨by decide, by decide⟩ rfl rfl (Nat.le_of_ble_eq_true rfl) d_La_law_323 ⟨by show (cells + 1) + 0 ≤ 631199; omega, by show (slots + 6) + 0 ≤ 7202507; omega⟩ rfl rfl rfl hX (fun q30 hX => ?_)
        refine am_istore (pc := 326) (lo1 := [some (.ref sb), some (.ref v1), some (.ref v2), some (.ref v3), some (.int v4), some (.int q28.1), some (.int q30.1)]) C d_La_law_326 (by decide) rfl ?_
        refine am_aload_n (pc := 328) C d_La_law_328 rfl rfl ?_
        refine am_callVi (pc := 329) (As := []) (st := []) (cells1 := (cells + 1)) (slots1 := (slots + 6)) C (fun _ h => h.2) (fun _ h => by cases h.1) (fun q h => c_Mo_thrown h) wd_4_194 wd_4_195 wd_4_196 wd_1_9 wd_4_197 rfl rfl hd_Mo_thrown ⟨by decide, by decide⟩ rfl rfl (Nat.le_of_ble_eq_true rfl) d_La_law_329 ⟨by show (cells + 1) + 0 ≤ 631199; omega, by show (slots + 6) + 0 ≤ 7202507; omega⟩ rfl rfl rfl hX (fun q31 hX => ?_)
        refine am_iload (pc := 332) C d_La_law_332 rfl ?_
        refine am_icmp_eq (pc := 334) (tgt := 339) C d_La_law_334 rfl hX (fun hX => ?_) (fun hX => ?_)
        · skip
          refine am_iload (pc := 339) C d_La_law_339 rfl ?_
          refine am_if_ne (pc := 341) (tgt := 356) C d_La_law_341 rfl hX (fun hX => ?_) (fun hX => ?_)
          · skip
            refine am_goto (pc := 356) (tgt := 887) C d_La_law_356 rfl ?_
            refine am_iinc (pc := 887) (y := (3 : Int32)) (lo1 := [some (.ref sb), some (.ref v1), some (.ref v2), some (.ref v3), some (.int (v4 + (3 : Int32))), some (.int q28.1), some (.int q30.1)]) C d_La_law_887 rfl (by decide) (by decide) rfl ?_
            refine am_goto (pc := 890) (tgt := 23) C d_La_law_890 rfl ?_
            exact am_sub (am_le_s (am_le_s (am_le_s (am_le_s (am_le_s (am_le_n (am_le_n (am_le_0)))))))) (hk23 v1 v2 v3 (v4 + (3 : Int32)) q31.2 hX (cells + 1) (slots + 6) (by omega) (by omega))
          · skip
            refine am_aload_n (pc := 344) C d_La_law_344 rfl rfl ?_
            refine am_iconst (pc := 345) (v := (0 : Int32)) C d_La_law_345 (by decide) ?_
            refine am_lald (pc := 346) C d_La_law_346 hX (fun x32 hX => ?_)
            refine am_iload (pc := 347) C d_La_law_347 rfl ?_
            refine am_i2l (pc := 349) C d_La_law_349 rfl ?_
            refine am_lcmp (pc := 350) C d_La_law_350 ?_
            refine am_if_eq (pc := 351) (tgt := 356) C d_La_law_351 rfl hX (fun hX => ?_) (fun hX => ?_)
            · skip
              refine am_goto (pc := 356) (tgt := 887) C d_La_law_356 rfl ?_
              refine am_iinc (pc := 887) (y := (3 : Int32)) (lo1 := [some (.ref sb), some (.ref v1), some (.ref v2), some (.ref v3), some (.int (v4 + (3 : Int32))), some (.int q28.1), some (.int q30.1)]) C d_La_law_887 rfl (by decide) (by decide) rfl ?_
              refine am_goto (pc := 890) (tgt := 23) C d_La_law_890 rfl ?_
              exact am_sub (am_le_s (am_le_s (am_le_s (am_le_s (am_le_s (am_le_n (am_le_n (am_le_0)))))))) (hk23 v1 v2 v3 (v4 + (3 : Int32)) q31.2 hX (cells + 1) (slots + 6) (by omega) (by omega))
            · skip
              refine am_iconst (pc := 354) (v := (0 : Int32)) C d_La_law_354 (by decide) ?_
              exact am_lawret (pc := 355) C hA hret hlk d_La_law_355 (by omega) (by omega) hr1 hX
        · skip
          refine am_iconst (pc := 337) (v := (0 : Int32)) C d_La_law_337 (by decide) ?_
          exact am_lawret (pc := 338) C hA hret hlk d_La_law_338 (by omega) (by omega) hr1 hX
      refine am_tsw (pc := 39) (k := (5 : Int32)) (tgt := 359) C d_La_law_39 (by decide) (by decide) rfl rfl hX (fun hX => ?_) (fun hn39_5 hX => ?_)
      · skip
        refine am_aload_n (pc := 359) C d_La_law_359 rfl rfl ?_
        refine am_aload_n (pc := 360) C d_La_law_360 rfl rfl ?_
        refine am_iload (pc := 361) C d_La_law_361 rfl ?_
        refine am_iconst (pc := 363) (v := (1 : Int32)) C d_La_law_363 (by decide) ?_
        refine am_iadd (pc := 364) C d_La_law_364 ?_
        refine am_sld (pc := 365) C hA hsc hsb d_La_law_365 hX (fun x33 hX => ?_)
        refine am_aload_n (pc := 366) C d_La_law_366 rfl rfl ?_
        refine am_iload (pc := 367) C d_La_law_367 rfl ?_
        refine am_iconst (pc := 369) (v := (2 : Int32)) C d_La_law_369 (by decide) ?_
        refine am_iadd (pc := 370) C d_La_law_370 ?_
        refine am_sld (pc := 371) C hA hsc hsb d_La_law_371 hX (fun x34 hX => ?_)
        refine am_callSW (pc := 372) (As := [.ref v1, .int x33, .int x34]) (st := []) (cells1 := (cells + 1)) (slots1 := (slots + 6)) C (fun _ h => h.2) (fun _ h => h) (fun q h => c_La_lasts hl h) wd_4_2 wd_4_3 wd_1_0 wd_4_4 rfl rfl hd_La_lasts ⟨by decide, by decide⟩ rfl (Nat.le_of_ble_eq_true rfl) d_La_law_372 ⟨by show cells + 1 ≤ 631199; omega, by show slots + 6 ≤ 7202507; omega⟩ rfl rfl rfl hX (fun q35 hX => ?_)
        refine am_istore (pc := 375) (lo1 := [some (.ref sb), some (.ref v1), some (.ref v2), some (.ref v3), some (.int v4), some (.int q35.1), none]) C d_La_law_375 (by decide) rfl ?_
        refine am_aload_n (pc := 377) C d_La_law_377 rfl rfl ?_
        refine am_aload_n (pc := 378) C d_La_law_378 rfl rfl ?_
        refine am_iload (pc := 379) C d_La_law_379 rfl ?_
        refine am_iconst (pc := 381) (v := (1 : Int32)) C d_La_law_381 (by decide) ?_
        refine am_iadd (pc := 382) C d_La_law_382 ?_
        refine am_sld (pc := 383) C hA hsc hsb d_La_law_383 hX (fun x36 hX => ?_)
        refine am_aload_n (pc := 384) C d_La_law_384 rfl rfl ?_
        refine am_iload (pc := 385) C d_La_law_385 rfl ?_
        refine am_iconst (pc := 387) (v := (2 : Int32)) C d_La_law_387 (by decide) ?_
        refine am_iadd (pc := 388) C d_La_law_388 ?_
        refine am_sld (pc := 389) C hA hsc hsb d_La_law_389 hX (fun x37 hX => ?_)
        refine am_callVv (pc := 390) (As := [.int x36, .int x37]) (st := []) (cells1 := (cells + 1)) (slots1 := (slots + 6)) C (fun _ h => h.2) (fun _ h => h) (fun q h => c_Mo_lasts h) wd_5_93 wd_5_94 wd_5_95 wd_1_9 wd_5_96 rfl rfl hd_Mo_lasts ⟨by decide, by decide⟩ rfl rfl (Nat.le_of_ble_eq_true rfl) d_La_law_390 ⟨by show (cells + 1) + 0 ≤ 631199; omega, by show (slots + 6) + 0 ≤ 7202507; omega⟩ rfl rfl rfl hX (fun q38 hX => ?_)
        refine am_aload_n (pc := 393) C d_La_law_393 rfl rfl ?_
        refine am_callVi (pc := 394) (As := []) (st := []) (cells1 := (cells + 1)) (slots1 := (slots + 6)) C (fun _ h => h.2) (fun _ h => by cases h.1) (fun q h => c_Mo_thrown h) wd_4_194 wd_4_195 wd_4_196 wd_1_9 wd_4_197 rfl rfl hd_Mo_thrown ⟨by decide, by decide⟩ rfl rfl (Nat.le_of_ble_eq_true rfl) d_La_law_394 ⟨by show (cells + 1) + 0 ≤ 631199; omega, by show (slots + 6) + 0 ≤ 7202507; omega⟩ rfl rfl rfl hX (fun q39 hX => ?_)
        refine am_iload (pc := 397) C d_La_law_397 rfl ?_
        refine am_icmp_eq (pc := 399) (tgt := 404) C d_La_law_399 rfl hX (fun hX => ?_) (fun hX => ?_)
        · skip
          refine am_goto (pc := 404) (tgt := 887) C d_La_law_404 rfl ?_
          refine am_iinc (pc := 887) (y := (3 : Int32)) (lo1 := [some (.ref sb), some (.ref v1), some (.ref v2), some (.ref v3), some (.int (v4 + (3 : Int32))), some (.int q35.1), none]) C d_La_law_887 rfl (by decide) (by decide) rfl ?_
          refine am_goto (pc := 890) (tgt := 23) C d_La_law_890 rfl ?_
          exact am_sub (am_le_s (am_le_s (am_le_s (am_le_s (am_le_s (am_le_n (am_le_n (am_le_0)))))))) (hk23 v1 v2 v3 (v4 + (3 : Int32)) q39.2 hX (cells + 1) (slots + 6) (by omega) (by omega))
        · skip
          refine am_iconst (pc := 402) (v := (0 : Int32)) C d_La_law_402 (by decide) ?_
          exact am_lawret (pc := 403) C hA hret hlk d_La_law_403 (by omega) (by omega) hr1 hX
      refine am_tsw (pc := 39) (k := (6 : Int32)) (tgt := 407) C d_La_law_39 (by decide) (by decide) rfl rfl hX (fun hX => ?_) (fun hn39_6 hX => ?_)
      · skip
        refine am_aload_n (pc := 407) C d_La_law_407 rfl rfl ?_
        refine am_aload_n (pc := 408) C d_La_law_408 rfl rfl ?_
        refine am_iload (pc := 409) C d_La_law_409 rfl ?_
        refine am_iconst (pc := 411) (v := (1 : Int32)) C d_La_law_411 (by decide) ?_
        refine am_iadd (pc := 412) C d_La_law_412 ?_
        refine am_sld (pc := 413) C hA hsc hsb d_La_law_413 hX (fun x40 hX => ?_)
        refine am_aload_n (pc := 414) C d_La_law_414 rfl rfl ?_
        refine am_iload (pc := 415) C d_La_law_415 rfl ?_
        refine am_iconst (pc := 417) (v := (2 : Int32)) C d_La_law_417 (by decide) ?_
        refine am_iadd (pc := 418) C d_La_law_418 ?_
        refine am_sld (pc := 419) C hA hsc hsb d_La_law_419 hX (fun x41 hX => ?_)
        refine am_callSW (pc := 420) (As := [.ref v1, .int x40, .int x41]) (st := []) (cells1 := (cells + 1)) (slots1 := (slots + 6)) C (fun _ h => h.2) (fun _ h => h) (fun q h => c_La_draws hl h) wd_4_29 wd_4_30 wd_1_0 wd_4_31 rfl rfl hd_La_draws ⟨by decide, by decide⟩ rfl (Nat.le_of_ble_eq_true rfl) d_La_law_420 ⟨by show cells + 1 ≤ 631199; omega, by show slots + 6 ≤ 7202507; omega⟩ rfl rfl rfl hX (fun q42 hX => ?_)
        refine am_istore (pc := 423) (lo1 := [some (.ref sb), some (.ref v1), some (.ref v2), some (.ref v3), some (.int v4), some (.int q42.1), none]) C d_La_law_423 (by decide) rfl ?_
        refine am_aload_n (pc := 425) C d_La_law_425 rfl rfl ?_
        refine am_aload_n (pc := 426) C d_La_law_426 rfl rfl ?_
        refine am_iload (pc := 427) C d_La_law_427 rfl ?_
        refine am_iconst (pc := 429) (v := (1 : Int32)) C d_La_law_429 (by decide) ?_
        refine am_iadd (pc := 430) C d_La_law_430 ?_
        refine am_sld (pc := 431) C hA hsc hsb d_La_law_431 hX (fun x43 hX => ?_)
        refine am_aload_n (pc := 432) C d_La_law_432 rfl rfl ?_
        refine am_iload (pc := 433) C d_La_law_433 rfl ?_
        refine am_iconst (pc := 435) (v := (2 : Int32)) C d_La_law_435 (by decide) ?_
        refine am_iadd (pc := 436) C d_La_law_436 ?_
        refine am_sld (pc := 437) C hA hsc hsb d_La_law_437 hX (fun x44 hX => ?_)
        refine am_callVv (pc := 438) (As := [.int x43, .int x44]) (st := []) (cells1 := (cells + 1)) (slots1 := (slots + 6)) C (fun _ h => h.2) (fun _ h => h) (fun q h => c_Mo_draws h) wd_5_101 wd_5_102 wd_5_103 wd_1_9 wd_5_104 rfl rfl hd_Mo_draws ⟨by decide, by decide⟩ rfl rfl (Nat.le_of_ble_eq_true rfl) d_La_law_438 ⟨by show (cells + 1) + 0 ≤ 631199; omega, by show (slots + 6) + 0 ≤ 7202507; omega⟩ rfl rfl rfl hX (fun q45 hX => ?_)
        refine am_aload_n (pc := 441) C d_La_law_441 rfl rfl ?_
        refine am_callVi (pc := 442) (As := []) (st := []) (cells1 := (cells + 1)) (slots1 := (slots + 6)) C (fun _ h => h.2) (fun _ h => by cases h.1) (fun q h => c_Mo_thrown h) wd_4_194 wd_4_195 wd_4_196 wd_1_9 wd_4_197 rfl rfl hd_Mo_thrown ⟨by decide, by decide⟩ rfl rfl (Nat.le_of_ble_eq_true rfl) d_La_law_442 ⟨by show (cells + 1) + 0 ≤ 631199; omega, by show (slots + 6) + 0 ≤ 7202507; omega⟩ rfl rfl rfl hX (fun q46 hX => ?_)
        refine am_iload (pc := 445) C d_La_law_445 rfl ?_
        refine am_icmp_eq (pc := 447) (tgt := 452) C d_La_law_447 rfl hX (fun hX => ?_) (fun hX => ?_)
        · skip
          refine am_goto (pc := 452) (tgt := 887) C d_La_law_452 rfl ?_
          refine am_iinc (pc := 887) (y := (3 : Int32)) (lo1 := [some (.ref sb), some (.ref v1), some (.ref v2), some (.ref v3), some (.int (v4 + (3 : Int32))), some (.int q42.1), none]) C d_La_law_887 rfl (by decide) (by decide) rfl ?_
          refine am_goto (pc := 890) (tgt := 23) C d_La_law_890 rfl ?_
          exact am_sub (am_le_s (am_le_s (am_le_s (am_le_s (am_le_s (am_le_n (am_le_n (am_le_0)))))))) (hk23 v1 v2 v3 (v4 + (3 : Int32)) q46.2 hX (cells + 1) (slots + 6) (by omega) (by omega))
        · skip
          refine am_iconst (pc := 450) (v := (0 : Int32)) C d_La_law_450 (by decide) ?_
          exact am_lawret (pc := 451) C hA hret hlk d_La_law_451 (by omega) (by omega) hr1 hX
      refine am_tsw (pc := 39) (k := (7 : Int32)) (tgt := 455) C d_La_law_39 (by decide) (by decide) rfl rfl hX (fun hX => ?_) (fun hn39_7 hX => ?_)
      · skip
        refine am_aload_n (pc := 455) C d_La_law_455 rfl rfl ?_
        refine am_aload_n (pc := 456) C d_La_law_456 rfl rfl ?_
        refine am_iload (pc := 457) C d_La_law_457 rfl ?_
        refine am_iconst (pc := 459) (v := (1 : Int32)) C d_La_law_459 (by decide) ?_
        refine am_iadd (pc := 460) C d_La_law_460 ?_
        refine am_sld (pc := 461) C hA hsc hsb d_La_law_461 hX (fun x47 hX => ?_)
        refine am_aload_n (pc := 462) C d_La_law_462 rfl rfl ?_
        refine am_iload (pc := 463) C d_La_law_463 rfl ?_
        refine am_iconst (pc := 465) (v := (2 : Int32)) C d_La_law_465 (by decide) ?_
        refine am_iadd (pc := 466) C d_La_law_466 ?_
        refine am_sld (pc := 467) C hA hsc hsb d_La_law_467 hX (fun x48 hX => ?_)
        refine am_callSW (pc := 468) (As := [.ref v1, .int x47, .int x48]) (st := []) (cells1 := (cells + 1)) (slots1 := (slots + 6)) C (fun _ h => h.2) (fun _ h => h) (fun q h => c_La_curve hl h) wd_4_36 wd_4_37 wd_1_0 wd_4_38 rfl rfl hd_La_curve ⟨by decide, by decide⟩ rfl (Nat.le_of_ble_eq_true rfl) d_La_law_468 ⟨by show cells + 1 ≤ 631199; omega, by show slots + 6 ≤ 7202507; omega⟩ rfl rfl rfl hX (fun q49 hX => ?_)
        refine am_istore (pc := 471) (lo1 := [some (.ref sb), some (.ref v1), some (.ref v2), some (.ref v3), some (.int v4), some (.int q49.1), none]) C d_La_law_471 (by decide) rfl ?_
        refine am_aload_n (pc := 473) C d_La_law_473 rfl rfl ?_
        refine am_aload_n (pc := 474) C d_La_law_474 rfl rfl ?_
        refine am_iload (pc := 475) C d_La_law_475 rfl ?_
        refine am_iconst (pc := 477) (v := (1 : Int32)) C d_La_law_477 (by decide) ?_
        refine am_iadd (pc := 478) C d_La_law_478 ?_
        refine am_sld (pc := 479) C hA hsc hsb d_La_law_479 hX (fun x50 hX => ?_)
        refine am_aload_n (pc := 480) C d_La_law_480 rfl rfl ?_
        refine am_iload (pc := 481) C d_La_law_481 rfl ?_
        refine am_iconst (pc := 483) (v := (2 : Int32)) C d_La_law_483 (by decide) ?_
        refine am_iadd (pc := 484) C d_La_law_484 ?_
        refine am_sld (pc := 485) C hA hsc hsb d_La_law_485 hX (fun x51 hX => ?_)
        refine am_callVv (pc := 486) (As := [.int x50, .int x51]) (st := []) (cells1 := (cells + 1)) (slots1 := (slots + 6)) C (fun _ h => h.2) (fun _ h => h) (fun q h => c_Mo_curve h) wd_5_105 wd_5_106 wd_5_107 wd_1_9 wd_5_108 rfl rfl hd_Mo_curve ⟨by decide, by decide⟩ rfl rfl (Nat.le_of_ble_eq_true rfl) d_La_law_486 ⟨by show (cells + 1) + 0 ≤ 631199; omega, by show (slots + 6) + 0 ≤ 7202507; omega⟩ rfl rfl rfl hX (fun q52 hX => ?_)
        refine am_aload_n (pc := 489) C d_La_law_489 rfl rfl ?_
        refine am_callVi (pc := 490) (As := []) (st := []) (cells1 := (cells + 1)) (slots1 := (slots + 6)) C (fun _ h => h.2) (fun _ h => by cases h.1) (fun q h => c_Mo_thrown h) wd_4_194 wd_4_195 wd_4_196 wd_1_9 wd_4_197 rfl rfl hd_Mo_thrown ⟨by decide, by decide⟩ rfl rfl (Nat.le_of_ble_eq_true rfl) d_La_law_490 ⟨by show (cells + 1) + 0 ≤ 631199; omega, by show (slots + 6) + 0 ≤ 7202507; omega⟩ rfl rfl rfl hX (fun q53 hX => ?_)
        refine am_iload (pc := 493) C d_La_law_493 rfl ?_
        refine am_icmp_eq (pc := 495) (tgt := 500) C d_La_law_495 rfl hX (fun hX => ?_) (fun hX => ?_)
        · skip
          refine am_goto (pc := 500) (tgt := 887) C d_La_law_500 rfl ?_
          refine am_iinc (pc := 887) (y := (3 : Int32)) (lo1 := [some (.ref sb), some (.ref v1), some (.ref v2), some (.ref v3), some (.int (v4 + (3 : Int32))), some (.int q49.1), none]) C d_La_law_887 rfl (by decide) (by decide) rfl ?_
          refine am_goto (pc := 890) (tgt := 23) C d_La_law_890 rfl ?_
          exact am_sub (am_le_s (am_le_s (am_le_s (am_le_s (am_le_s (am_le_n (am_le_n (am_le_0)))))))) (hk23 v1 v2 v3 (v4 + (3 : Int32)) q53.2 hX (cells + 1) (slots + 6) (by omega) (by omega))
        · skip
          refine am_iconst (pc := 498) (v := (0 : Int32)) C d_La_law_498 (by decide) ?_
          exact am_lawret (pc := 499) C hA hret hlk d_La_law_499 (by omega) (by omega) hr1 hX
      refine am_tsw (pc := 39) (k := (8 : Int32)) (tgt := 503) C d_La_law_39 (by decide) (by decide) rfl rfl hX (fun hX => ?_) (fun hn39_8 hX => ?_)
      · skip
        refine am_aload_n (pc := 503) C d_La_law_503 rfl rfl ?_
        refine am_aload_n (pc := 504) C d_La_law_504 rfl rfl ?_
        refine am_iload (pc := 505) C d_La_law_505 rfl ?_
        refine am_iconst (pc := 507) (v := (1 : Int32)) C d_La_law_507 (by decide) ?_
        refine am_iadd (pc := 508) C d_La_law_508 ?_
        refine am_sld (pc := 509) C hA hsc hsb d_La_law_509 hX (fun x54 hX => ?_)
        refine am_callSW (pc := 510) (As := [.ref v1, .int x54]) (st := []) (cells1 := (cells + 1)) (slots1 := (slots + 6)) C (fun _ h => h.2) (fun _ h => h) (fun q h => c_La_gain hl h) wd_4_47 wd_4_48 wd_1_0 wd_4_49 rfl rfl hd_La_gain ⟨by decide, by decide⟩ rfl (Nat.le_of_ble_eq_true rfl) d_La_law_510 ⟨by show cells + 1 ≤ 631199; omega, by show slots + 6 ≤ 7202507; omega⟩ rfl rfl rfl hX (fun q55 hX => ?_)
        refine am_istore (pc := 513) (lo1 := [some (.ref sb), some (.ref v1), some (.ref v2), some (.ref v3), some (.int v4), some (.int q55.1), none]) C d_La_law_513 (by decide) rfl ?_
        refine am_aload_n (pc := 515) C d_La_law_515 rfl rfl ?_
        refine am_aload_n (pc := 516) C d_La_law_516 rfl rfl ?_
        refine am_iload (pc := 517) C d_La_law_517 rfl ?_
        refine am_iconst (pc := 519) (v := (1 : Int32)) C d_La_law_519 (by decide) ?_
        refine am_iadd (pc := 520) C d_La_law_520 ?_
        refine am_sld (pc := 521) C hA hsc hsb d_La_law_521 hX (fun x56 hX => ?_)
        refine am_callVv (pc := 522) (As := [.int x56]) (st := []) (cells1 := (cells + 1)) (slots1 := (slots + 6)) C (fun _ h => h.2) (fun _ h => h) (fun q h => c_Mo_gain h) wd_5_109 wd_5_110 wd_5_111 wd_1_9 wd_5_112 rfl rfl hd_Mo_gain ⟨by decide, by decide⟩ rfl rfl (Nat.le_of_ble_eq_true rfl) d_La_law_522 ⟨by show (cells + 1) + 0 ≤ 631199; omega, by show (slots + 6) + 0 ≤ 7202507; omega⟩ rfl rfl rfl hX (fun q57 hX => ?_)
        refine am_aload_n (pc := 525) C d_La_law_525 rfl rfl ?_
        refine am_callVi (pc := 526) (As := []) (st := []) (cells1 := (cells + 1)) (slots1 := (slots + 6)) C (fun _ h => h.2) (fun _ h => by cases h.1) (fun q h => c_Mo_thrown h) wd_4_194 wd_4_195 wd_4_196 wd_1_9 wd_4_197 rfl rfl hd_Mo_thrown ⟨by decide, by decide⟩ rfl rfl (Nat.le_of_ble_eq_true rfl) d_La_law_526 ⟨by show (cells + 1) + 0 ≤ 631199; omega, by show (slots + 6) + 0 ≤ 7202507; omega⟩ rfl rfl rfl hX (fun q58 hX => ?_)
        refine am_iload (pc := 529) C d_La_law_529 rfl ?_
        refine am_icmp_eq (pc := 531) (tgt := 536) C d_La_law_531 rfl hX (fun hX => ?_) (fun hX => ?_)
        · skip
          refine am_goto (pc := 536) (tgt := 887) C d_La_law_536 rfl ?_
          refine am_iinc (pc := 887) (y := (3 : Int32)) (lo1 := [some (.ref sb), some (.ref v1), some (.ref v2), some (.ref v3), some (.int (v4 + (3 : Int32))), some (.int q55.1), none]) C d_La_law_887 rfl (by decide) (by decide) rfl ?_
          refine am_goto (pc := 890) (tgt := 23) C d_La_law_890 rfl ?_
          exact am_sub (am_le_s (am_le_s (am_le_s (am_le_s (am_le_s (am_le_n (am_le_n (am_le_0)))))))) (hk23 v1 v2 v3 (v4 + (3 : Int32)) q58.2 hX (cells + 1) (slots + 6) (by omega) (by omega))
        · skip
          refine am_iconst (pc := 534) (v := (0 : Int32)) C d_La_law_534 (by decide) ?_
          exact am_lawret (pc := 535) C hA hret hlk d_La_law_535 (by omega) (by omega) hr1 hX
      refine am_tsw (pc := 39) (k := (9 : Int32)) (tgt := 539) C d_La_law_39 (by decide) (by decide) rfl rfl hX (fun hX => ?_) (fun hn39_9 hX => ?_)
      · skip
        refine am_aload_n (pc := 539) C d_La_law_539 rfl rfl ?_
        refine am_aload_n (pc := 540) C d_La_law_540 rfl rfl ?_
        refine am_iload (pc := 541) C d_La_law_541 rfl ?_
        refine am_iconst (pc := 543) (v := (1 : Int32)) C d_La_law_543 (by decide) ?_
        refine am_iadd (pc := 544) C d_La_law_544 ?_
        refine am_sld (pc := 545) C hA hsc hsb d_La_law_545 hX (fun x59 hX => ?_)
        refine am_aload_n (pc := 546) C d_La_law_546 rfl rfl ?_
        refine am_iload (pc := 547) C d_La_law_547 rfl ?_
        refine am_iconst (pc := 549) (v := (2 : Int32)) C d_La_law_549 (by decide) ?_
        refine am_iadd (pc := 550) C d_La_law_550 ?_
        refine am_sld (pc := 551) C hA hsc hsb d_La_law_551 hX (fun x60 hX => ?_)
        refine am_callSW (pc := 552) (As := [.ref v1, .int x59, .int x60]) (st := []) (cells1 := (cells + 1)) (slots1 := (slots + 6)) C (fun _ h => h.2) (fun _ h => h) (fun q h => c_La_home hl h) wd_4_54 wd_4_55 wd_1_0 wd_4_56 rfl rfl hd_La_home ⟨by decide, by decide⟩ rfl (Nat.le_of_ble_eq_true rfl) d_La_law_552 ⟨by show cells + 1 ≤ 631199; omega, by show slots + 6 ≤ 7202507; omega⟩ rfl rfl rfl hX (fun q61 hX => ?_)
        refine am_istore (pc := 555) (lo1 := [some (.ref sb), some (.ref v1), some (.ref v2), some (.ref v3), some (.int v4), some (.int q61.1), none]) C d_La_law_555 (by decide) rfl ?_
        refine am_aload_n (pc := 557) C d_La_law_557 rfl rfl ?_
        refine am_aload_n (pc := 558) C d_La_law_558 rfl rfl ?_
        refine am_iload (pc := 559) C d_La_law_559 rfl ?_
        refine am_iconst (pc := 561) (v := (1 : Int32)) C d_La_law_561 (by decide) ?_
        refine am_iadd (pc := 562) C d_La_law_562 ?_
        refine am_sld (pc := 563) C hA hsc hsb d_La_law_563 hX (fun x62 hX => ?_)
        refine am_aload_n (pc := 564) C d_La_law_564 rfl rfl ?_
        refine am_iload (pc := 565) C d_La_law_565 rfl ?_
        refine am_iconst (pc := 567) (v := (2 : Int32)) C d_La_law_567 (by decide) ?_
        refine am_iadd (pc := 568) C d_La_law_568 ?_
        refine am_sld (pc := 569) C hA hsc hsb d_La_law_569 hX (fun x63 hX => ?_)
        refine am_callVv (pc := 570) (As := [.int x62, .int x63]) (st := []) (cells1 := (cells + 1)) (slots1 := (slots + 6)) C (fun _ h => h.2) (fun _ h => h) (fun q h => c_Mo_home h) wd_5_113 wd_5_114 wd_5_115 wd_1_9 wd_5_116 rfl rfl hd_Mo_home ⟨by decide, by decide⟩ rfl rfl (Nat.le_of_ble_eq_true rfl) d_La_law_570 ⟨by show (cells + 1) + 0 ≤ 631199; omega, by show (slots + 6) + 0 ≤ 7202507; omega⟩ rfl rfl rfl hX (fun q64 hX => ?_)
        refine am_aload_n (pc := 573) C d_La_law_573 rfl rfl ?_
        refine am_callVi (pc := 574) (As := []) (st := []) (cells1 := (cells + 1)) (slots1 := (slots + 6)) C (fun _ h => h.2) (fun _ h => by cases h.1) (fun q h => c_Mo_thrown h) wd_4_194 wd_4_195 wd_4_196 wd_1_9 wd_4_197 rfl rfl hd_Mo_thrown ⟨by decide, by decide⟩ rfl rfl (Nat.le_of_ble_eq_true rfl) d_La_law_574 ⟨by show (cells + 1) + 0 ≤ 631199; omega, by show (slots + 6) + 0 ≤ 7202507; omega⟩ rfl rfl rfl hX (fun q65 hX => ?_)
        refine am_iload (pc := 577) C d_La_law_577 rfl ?_
        refine am_icmp_eq (pc := 579) (tgt := 584) C d_La_law_579 rfl hX (fun hX => ?_) (fun hX => ?_)
        · skip
          refine am_goto (pc := 584) (tgt := 887) C d_La_law_584 rfl ?_
          refine am_iinc (pc := 887) (y := (3 : Int32)) (lo1 := [some (.ref sb), some (.ref v1), some (.ref v2), some (.ref v3), some (.int (v4 + (3 : Int32))), some (.int q61.1), none]) C d_La_law_887 rfl (by decide) (by decide) rfl ?_
          refine am_goto (pc := 890) (tgt := 23) C d_La_law_890 rfl ?_
          exact am_sub (am_le_s (am_le_s (am_le_s (am_le_s (am_le_s (am_le_n (am_le_n (am_le_0)))))))) (hk23 v1 v2 v3 (v4 + (3 : Int32)) q65.2 hX (cells + 1) (slots + 6) (by omega) (by omega))
        · skip
          refine am_iconst (pc := 582) (v := (0 : Int32)) C d_La_law_582 (by decide) ?_
          exact am_lawret (pc := 583) C hA hret hlk d_La_law_583 (by omega) (by omega) hr1 hX
      refine am_tsw (pc := 39) (k := (10 : Int32)) (tgt := 587) C d_La_law_39 (by decide) (by decide) rfl rfl hX (fun hX => ?_) (fun hn39_10 hX => ?_)
      · skip
        refine am_aload_n (pc := 587) C d_La_law_587 rfl rfl ?_
        refine am_aload_n (pc := 588) C d_La_law_588 rfl rfl ?_
        refine am_iload (pc := 589) C d_La_law_589 rfl ?_
        refine am_iconst (pc := 591) (v := (1 : Int32)) C d_La_law_591 (by decide) ?_
        refine am_iadd (pc := 592) C d_La_law_592 ?_
        refine am_sld (pc := 593) C hA hsc hsb d_La_law_593 hX (fun x66 hX => ?_)
        refine am_aload_n (pc := 594) C d_La_law_594 rfl rfl ?_
        refine am_iload (pc := 595) C d_La_law_595 rfl ?_
        refine am_iconst (pc := 597) (v := (2 : Int32)) C d_La_law_597 (by decide) ?_
        refine am_iadd (pc := 598) C d_La_law_598 ?_
        refine am_sld (pc := 599) C hA hsc hsb d_La_law_599 hX (fun x67 hX => ?_)
        refine am_callSW (pc := 600) (As := [.ref v1, .int x66, .int x67]) (st := []) (cells1 := (cells + 1)) (slots1 := (slots + 6)) C (fun _ h => h.2) (fun _ h => h) (fun q h => c_La_fill hl h) wd_4_62 wd_4_63 wd_1_0 wd_4_64 rfl rfl hd_La_fill ⟨by decide, by decide⟩ rfl (Nat.le_of_ble_eq_true rfl) d_La_law_600 ⟨by show cells + 1 ≤ 631199; omega, by show slots + 6 ≤ 7202507; omega⟩ rfl rfl rfl hX (fun q68 hX => ?_)
        refine am_istore (pc := 603) (lo1 := [some (.ref sb), some (.ref v1), some (.ref v2), some (.ref v3), some (.int v4), some (.int q68.1), none]) C d_La_law_603 (by decide) rfl ?_
        refine am_aload_n (pc := 605) C d_La_law_605 rfl rfl ?_
        refine am_aload_n (pc := 606) C d_La_law_606 rfl rfl ?_
        refine am_iload (pc := 607) C d_La_law_607 rfl ?_
        refine am_iconst (pc := 609) (v := (1 : Int32)) C d_La_law_609 (by decide) ?_
        refine am_iadd (pc := 610) C d_La_law_610 ?_
        refine am_sld (pc := 611) C hA hsc hsb d_La_law_611 hX (fun x69 hX => ?_)
        refine am_aload_n (pc := 612) C d_La_law_612 rfl rfl ?_
        refine am_iload (pc := 613) C d_La_law_613 rfl ?_
        refine am_iconst (pc := 615) (v := (2 : Int32)) C d_La_law_615 (by decide) ?_
        refine am_iadd (pc := 616) C d_La_law_616 ?_
        refine am_sld (pc := 617) C hA hsc hsb d_La_law_617 hX (fun x70 hX => ?_)
        refine am_callVv (pc := 618) (As := [.int x69, .int x70]) (st := []) (cells1 := (cells + 1)) (slots1 := (slots + 6)) C (fun _ h => h.2) (fun _ h => h) (fun q h => c_Mo_fill h) wd_5_117 wd_5_118 wd_5_119 wd_1_9 wd_5_120 rfl rfl hd_Mo_fill ⟨by decide, by decide⟩ rfl rfl (Nat.le_of_ble_eq_true rfl) d_La_law_618 ⟨by show (cells + 1) + 0 ≤ 631199; omega, by show (slots + 6) + 0 ≤ 7202507; omega⟩ rfl rfl rfl hX (fun q71 hX => ?_)
        refine am_aload_n (pc := 621) C d_La_law_621 rfl rfl ?_
        refine am_callVi (pc := 622) (As := []) (st := []) (cells1 := (cells + 1)) (slots1 := (slots + 6)) C (fun _ h => h.2) (fun _ h => by cases h.1) (fun q h => c_Mo_thrown h) wd_4_194 wd_4_195 wd_4_196 wd_1_9 wd_4_197 rfl rfl hd_Mo_thrown ⟨by decide, by decide⟩ rfl rfl (Nat.le_of_ble_eq_true rfl) d_La_law_622 ⟨by show (cells + 1) + 0 ≤ 631199; omega, by show (slots + 6) + 0 ≤ 7202507; omega⟩ rfl rfl rfl hX (fun q72 hX => ?_)
        refine am_iload (pc := 625) C d_La_law_625 rfl ?_
        refine am_icmp_eq (pc := 627) (tgt := 632) C d_La_law_627 rfl hX (fun hX => ?_) (fun hX => ?_)
        · skip
          refine am_goto (pc := 632) (tgt := 887) C d_La_law_632 rfl ?_
          refine am_iinc (pc := 887) (y := (3 : Int32)) (lo1 := [some (.ref sb), some (.ref v1), some (.ref v2), some (.ref v3), some (.int (v4 + (3 : Int32))), some (.int q68.1), none]) C d_La_law_887 rfl (by decide) (by decide) rfl ?_
          refine am_goto (pc := 890) (tgt := 23) C d_La_law_890 rfl ?_
          exact am_sub (am_le_s (am_le_s (am_le_s (am_le_s (am_le_s (am_le_n (am_le_n (am_le_0)))))))) (hk23 v1 v2 v3 (v4 + (3 : Int32)) q72.2 hX (cells + 1) (slots + 6) (by omega) (by omega))
        · skip
          refine am_iconst (pc := 630) (v := (0 : Int32)) C d_La_law_630 (by decide) ?_
          exact am_lawret (pc := 631) C hA hret hlk d_La_law_631 (by omega) (by omega) hr1 hX
      refine am_tsw (pc := 39) (k := (11 : Int32)) (tgt := 635) C d_La_law_39 (by decide) (by decide) rfl rfl hX (fun hX => ?_) (fun hn39_11 hX => ?_)
      · skip
        refine am_aload_n (pc := 635) C d_La_law_635 rfl rfl ?_
        refine am_callVi (pc := 636) (As := []) (st := []) (cells1 := cells) (slots1 := slots) C (fun _ h => h.2) (fun _ h => by cases h.1) (fun q h => c_Rm_now h) wd_2_36 wd_2_37 wd_2_38 wd_1_1 wd_2_39 rfl rfl hd_Rm_now ⟨by decide, by decide⟩ rfl rfl (Nat.le_of_ble_eq_true rfl) d_La_law_636 ⟨by show cells + 0 ≤ 631199; omega, by show slots + 0 ≤ 7202507; omega⟩ rfl rfl rfl hX (fun q73 hX => ?_)
        refine am_aload_n (pc := 639) C d_La_law_639 rfl rfl ?_
        refine am_callVi (pc := 640) (As := []) (st := [.int q73.1]) (cells1 := cells) (slots1 := slots) C (fun _ h => h.2) (fun _ h => h) (fun q h => c_Mo_now h) wd_5_121 wd_5_122 wd_5_123 wd_1_9 wd_5_124 rfl rfl hd_Mo_now ⟨by decide, by decide⟩ rfl rfl (Nat.le_of_ble_eq_true rfl) d_La_law_640 ⟨by show cells + 0 ≤ 631199; omega, by show slots + 0 ≤ 7202507; omega⟩ rfl rfl rfl hX (fun q74 hX => ?_)
        refine am_icmp_eq (pc := 643) (tgt := 887) C d_La_law_643 rfl hX (fun hX => ?_) (fun hX => ?_)
        · skip
          refine am_iinc (pc := 887) (y := (3 : Int32)) (lo1 := [some (.ref sb), some (.ref v1), some (.ref v2), some (.ref v3), some (.int (v4 + (3 : Int32))), none, none]) C d_La_law_887 rfl (by decide) (by decide) rfl ?_
          refine am_goto (pc := 890) (tgt := 23) C d_La_law_890 rfl ?_
          exact (hk23 v1 v2 v3 (v4 + (3 : Int32)) q74.2 hX cells slots (by omega) (by omega))
        · skip
          refine am_iconst (pc := 646) (v := (0 : Int32)) C d_La_law_646 (by decide) ?_
          exact am_lawret (pc := 647) C hA hret hlk d_La_law_647 (by omega) (by omega) hr1 hX
      refine am_tsw (pc := 39) (k := (12 : Int32)) (tgt := 648) C d_La_law_39 (by decide) (by decide) rfl rfl hX (fun hX => ?_) (fun hn39_12 hX => ?_)
      · skip
        refine am_aload_n (pc := 648) C d_La_law_648 rfl rfl ?_
        refine am_callVi (pc := 649) (As := []) (st := []) (cells1 := cells) (slots1 := slots) C (fun _ h => h.2) (fun _ h => by cases h.1) (fun q h => c_Rm_mode h) wd_2_40 wd_2_41 wd_2_42 wd_1_1 wd_2_43 rfl rfl hd_Rm_mode ⟨by decide, by decide⟩ rfl rfl (Nat.le_of_ble_eq_true rfl) d_La_law_649 ⟨by show cells + 0 ≤ 631199; omega, by show slots + 0 ≤ 7202507; omega⟩ rfl rfl rfl hX (fun q75 hX => ?_)
        refine am_aload_n (pc := 652) C d_La_law_652 rfl rfl ?_
        refine am_callVi (pc := 653) (As := []) (st := [.int q75.1]) (cells1 := cells) (slots1 := slots) C (fun _ h => h.2) (fun _ h => h) (fun q h => c_Mo_mode h) wd_5_125 wd_5_126 wd_5_127 wd_1_9 wd_5_128 rfl rfl hd_Mo_mode ⟨by decide, by decide⟩ rfl rfl (Nat.le_of_ble_eq_true rfl) d_La_law_653 ⟨by show cells + 0 ≤ 631199; omega, by show slots + 0 ≤ 7202507; omega⟩ rfl rfl rfl hX (fun q76 hX => ?_)
        refine am_icmp_eq (pc := 656) (tgt := 887) C d_La_law_656 rfl hX (fun hX => ?_) (fun hX => ?_)
        · skip
          refine am_iinc (pc := 887) (y := (3 : Int32)) (lo1 := [some (.ref sb), some (.ref v1), some (.ref v2), some (.ref v3), some (.int (v4 + (3 : Int32))), none, none]) C d_La_law_887 rfl (by decide) (by decide) rfl ?_
          refine am_goto (pc := 890) (tgt := 23) C d_La_law_890 rfl ?_
          exact (hk23 v1 v2 v3 (v4 + (3 : Int32)) q76.2 hX cells slots (by omega) (by omega))
        · skip
          refine am_iconst (pc := 659) (v := (0 : Int32)) C d_La_law_659 (by decide) ?_
          exact am_lawret (pc := 660) C hA hret hlk d_La_law_660 (by omega) (by omega) hr1 hX
      refine am_tsw (pc := 39) (k := (13 : Int32)) (tgt := 661) C d_La_law_39 (by decide) (by decide) rfl rfl hX (fun hX => ?_) (fun hn39_13 hX => ?_)
      · skip
        refine am_aload_n (pc := 661) C d_La_law_661 rfl rfl ?_
        refine am_aload_n (pc := 662) C d_La_law_662 rfl rfl ?_
        refine am_iload (pc := 663) C d_La_law_663 rfl ?_
        refine am_iconst (pc := 665) (v := (1 : Int32)) C d_La_law_665 (by decide) ?_
        refine am_iadd (pc := 666) C d_La_law_666 ?_
        refine am_sld (pc := 667) C hA hsc hsb d_La_law_667 hX (fun x77 hX => ?_)
        refine am_aload_n (pc := 668) C d_La_law_668 rfl rfl ?_
        refine am_callSW (pc := 669) (As := [.ref v1, .int x77, .ref v3]) (st := []) (cells1 := (cells + 1)) (slots1 := (slots + 6)) C (fun _ h => h.2) (fun _ h => h) (fun q h => c_La_level hl h) wd_4_69 wd_4_70 wd_1_0 wd_4_71 rfl rfl hd_La_level ⟨by decide, by decide⟩ rfl (Nat.le_of_ble_eq_true rfl) d_La_law_669 ⟨by show cells + 1 ≤ 631199; omega, by show slots + 6 ≤ 7202507; omega⟩ rfl rfl rfl hX (fun q78 hX => ?_)
        refine am_istore (pc := 672) (lo1 := [some (.ref sb), some (.ref v1), some (.ref v2), some (.ref v3), some (.int v4), some (.int q78.1), none]) C d_La_law_672 (by decide) rfl ?_
        refine am_aload_n (pc := 674) C d_La_law_674 rfl rfl ?_
        refine am_aload_n (pc := 675) C d_La_law_675 rfl rfl ?_
        refine am_iload (pc := 676) C d_La_law_676 rfl ?_
        refine am_iconst (pc := 678) (v := (1 : Int32)) C d_La_law_678 (by decide) ?_
        refine am_iadd (pc := 679) C d_La_law_679 ?_
        refine am_sld (pc := 680) C hA hsc hsb d_La_law_680 hX (fun x79 hX => ?_)
        refine am_callVi (pc := 681) (As := [.int x79]) (st := []) (cells1 := (cells + 1)) (slots1 := (slots + 6)) C (fun _ h => h.2) (fun _ h => h) (fun q h => c_Mo_level h) wd_5_129 wd_5_130 wd_5_131 wd_1_9 wd_5_132 rfl rfl hd_Mo_level ⟨by decide, by decide⟩ rfl rfl (Nat.le_of_ble_eq_true rfl) d_La_law_681 ⟨by show (cells + 1) + 0 ≤ 631199; omega, by show (slots + 6) + 0 ≤ 7202507; omega⟩ rfl rfl rfl hX (fun q80 hX => ?_)
        refine am_istore (pc := 684) (lo1 := [some (.ref sb), some (.ref v1), some (.ref v2), some (.ref v3), some (.int v4), some (.int q78.1), some (.int q80.1)]) C d_La_law_684 (by decide) rfl ?_
        refine am_aload_n (pc := 686) C d_La_law_686 rfl rfl ?_
        refine am_callVi (pc := 687) (As := []) (st := []) (cells1 := (cells + 1)) (slots1 := (slots + 6)) C (fun _ h => h.2) (fun _ h => by cases h.1) (fun q h => c_Mo_thrown h) wd_4_194 wd_4_195 wd_4_196 wd_1_9 wd_4_197 rfl rfl hd_Mo_thrown ⟨by decide, by decide⟩ rfl rfl (Nat.le_of_ble_eq_true rfl) d_La_law_687 ⟨by show (cells + 1) + 0 ≤ 631199; omega, by show (slots + 6) + 0 ≤ 7202507; omega⟩ rfl rfl rfl hX (fun q81 hX => ?_)
        refine am_iload (pc := 690) C d_La_law_690 rfl ?_
        refine am_icmp_eq (pc := 692) (tgt := 697) C d_La_law_692 rfl hX (fun hX => ?_) (fun hX => ?_)
        · skip
          refine am_iload (pc := 697) C d_La_law_697 rfl ?_
          refine am_if_ne (pc := 699) (tgt := 714) C d_La_law_699 rfl hX (fun hX => ?_) (fun hX => ?_)
          · skip
            refine am_goto (pc := 714) (tgt := 887) C d_La_law_714 rfl ?_
            refine am_iinc (pc := 887) (y := (3 : Int32)) (lo1 := [some (.ref sb), some (.ref v1), some (.ref v2), some (.ref v3), some (.int (v4 + (3 : Int32))), some (.int q78.1), some (.int q80.1)]) C d_La_law_887 rfl (by decide) (by decide) rfl ?_
            refine am_goto (pc := 890) (tgt := 23) C d_La_law_890 rfl ?_
            exact am_sub (am_le_s (am_le_s (am_le_s (am_le_s (am_le_s (am_le_n (am_le_n (am_le_0)))))))) (hk23 v1 v2 v3 (v4 + (3 : Int32)) q81.2 hX (cells + 1) (slots + 6) (by omega) (by omega))
          · skip
            refine am_aload_n (pc := 702) C d_La_law_702 rfl rfl ?_
            refine am_iconst (pc := 703) (v := (0 : Int32)) C d_La_law_703 (by decide) ?_
            refine am_lald (pc := 704) C d_La_law_704 hX (fun x82 hX => ?_)
            refine am_iload (pc := 705) C d_La_law_705 rfl ?_
            refine am_i2l (pc := 707) C d_La_law_707 rfl ?_
            refine am_lcmp (pc := 708) C d_La_law_708 ?_
            refine am_if_eq (pc := 709) (tgt := 714) C d_La_law_709 rfl hX (fun hX => ?_) (fun hX => ?_)
            · skip
              refine am_goto (pc := 714) (tgt := 887) C d_La_law_714 rfl ?_
              refine am_iinc (pc := 887) (y := (3 : Int32)) (lo1 := [some (.ref sb), some (.ref v1), some (.ref v2), some (.ref v3), some (.int (v4 + (3 : Int32))), some (.int q78.1), some (.int q80.1)]) C d_La_law_887 rfl (by decide) (by decide) rfl ?_
              refine am_goto (pc := 890) (tgt := 23) C d_La_law_890 rfl ?_
              exact am_sub (am_le_s (am_le_s (am_le_s (am_le_s (am_le_s (am_le_n (am_le_n (am_le_0)))))))) (hk23 v1 v2 v3 (v4 + (3 : Int32)) q81.2 hX (cells + 1) (slots + 6) (by omega) (by omega))
            · skip
              refine am_iconst (pc := 712) (v := (0 : Int32)) C d_La_law_712 (by decide) ?_
              exact am_lawret (pc := 713) C hA hret hlk d_La_law_713 (by omega) (by omega) hr1 hX
        · skip
          refine am_iconst (pc := 695) (v := (0 : Int32)) C d_La_law_695 (by decide) ?_
          exact am_lawret (pc := 696) C hA hret hlk d_La_law_696 (by omega) (by omega) hr1 hX
      refine am_tsw (pc := 39) (k := (14 : Int32)) (tgt := 717) C d_La_law_39 (by decide) (by decide) rfl rfl hX (fun hX => ?_) (fun hn39_14 hX => ?_)
      · skip
        refine am_aload_n (pc := 717) C d_La_law_717 rfl rfl ?_
        refine am_callVi (pc := 718) (As := []) (st := []) (cells1 := cells) (slots1 := slots) C (fun _ h => h.2) (fun _ h => by cases h.1) (fun q h => c_Rm_reserve h) wd_2_44 wd_2_45 wd_2_46 wd_1_1 wd_2_47 rfl rfl hd_Rm_reserve ⟨by decide, by decide⟩ rfl rfl (Nat.le_of_ble_eq_true rfl) d_La_law_718 ⟨by show cells + 0 ≤ 631199; omega, by show slots + 0 ≤ 7202507; omega⟩ rfl rfl rfl hX (fun q83 hX => ?_)
        refine am_aload_n (pc := 721) C d_La_law_721 rfl rfl ?_
        refine am_callVi (pc := 722) (As := []) (st := [.int q83.1]) (cells1 := cells) (slots1 := slots) C (fun _ h => h.2) (fun _ h => h) (fun q h => c_Mo_reserve h) wd_5_137 wd_5_138 wd_5_139 wd_1_9 wd_5_140 rfl rfl hd_Mo_reserve ⟨by decide, by decide⟩ rfl rfl (Nat.le_of_ble_eq_true rfl) d_La_law_722 ⟨by show cells + 0 ≤ 631199; omega, by show slots + 0 ≤ 7202507; omega⟩ rfl rfl rfl hX (fun q84 hX => ?_)
        refine am_icmp_eq (pc := 725) (tgt := 887) C d_La_law_725 rfl hX (fun hX => ?_) (fun hX => ?_)
        · skip
          refine am_iinc (pc := 887) (y := (3 : Int32)) (lo1 := [some (.ref sb), some (.ref v1), some (.ref v2), some (.ref v3), some (.int (v4 + (3 : Int32))), none, none]) C d_La_law_887 rfl (by decide) (by decide) rfl ?_
          refine am_goto (pc := 890) (tgt := 23) C d_La_law_890 rfl ?_
          exact (hk23 v1 v2 v3 (v4 + (3 : Int32)) q84.2 hX cells slots (by omega) (by omega))
        · skip
          refine am_iconst (pc := 728) (v := (0 : Int32)) C d_La_law_728 (by decide) ?_
          exact am_lawret (pc := 729) C hA hret hlk d_La_law_729 (by omega) (by omega) hr1 hX
      refine am_tsw (pc := 39) (k := (15 : Int32)) (tgt := 730) C d_La_law_39 (by decide) (by decide) rfl rfl hX (fun hX => ?_) (fun hn39_15 hX => ?_)
      · skip
        refine am_aload_n (pc := 730) C d_La_law_730 rfl rfl ?_
        refine am_callVi (pc := 731) (As := []) (st := []) (cells1 := cells) (slots1 := slots) C (fun _ h => h.2) (fun _ h => by cases h.1) (fun q h => c_Rm_activities h) wd_2_55 wd_2_56 wd_2_57 wd_1_1 wd_2_58 rfl rfl hd_Rm_activities ⟨by decide, by decide⟩ rfl rfl (Nat.le_of_ble_eq_true rfl) d_La_law_731 ⟨by show cells + 0 ≤ 631199; omega, by show slots + 0 ≤ 7202507; omega⟩ rfl rfl rfl hX (fun q85 hX => ?_)
        refine am_aload_n (pc := 734) C d_La_law_734 rfl rfl ?_
        refine am_callVi (pc := 735) (As := []) (st := [.int q85.1]) (cells1 := cells) (slots1 := slots) C (fun _ h => h.2) (fun _ h => h) (fun q h => c_Mo_activities h) wd_5_141 wd_5_142 wd_5_143 wd_1_9 wd_5_144 rfl rfl hd_Mo_activities ⟨by decide, by decide⟩ rfl rfl (Nat.le_of_ble_eq_true rfl) d_La_law_735 ⟨by show cells + 0 ≤ 631199; omega, by show slots + 0 ≤ 7202507; omega⟩ rfl rfl rfl hX (fun q86 hX => ?_)
        refine am_icmp_eq (pc := 738) (tgt := 887) C d_La_law_738 rfl hX (fun hX => ?_) (fun hX => ?_)
        · skip
          refine am_iinc (pc := 887) (y := (3 : Int32)) (lo1 := [some (.ref sb), some (.ref v1), some (.ref v2), some (.ref v3), some (.int (v4 + (3 : Int32))), none, none]) C d_La_law_887 rfl (by decide) (by decide) rfl ?_
          refine am_goto (pc := 890) (tgt := 23) C d_La_law_890 rfl ?_
          exact (hk23 v1 v2 v3 (v4 + (3 : Int32)) q86.2 hX cells slots (by omega) (by omega))
        · skip
          refine am_iconst (pc := 741) (v := (0 : Int32)) C d_La_law_741 (by decide) ?_
          exact am_lawret (pc := 742) C hA hret hlk d_La_law_742 (by omega) (by omega) hr1 hX
      refine am_tsw (pc := 39) (k := (16 : Int32)) (tgt := 743) C d_La_law_39 (by decide) (by decide) rfl rfl hX (fun hX => ?_) (fun hn39_16 hX => ?_)
      · skip
        refine am_aload_n (pc := 743) C d_La_law_743 rfl rfl ?_
        refine am_aload_n (pc := 744) C d_La_law_744 rfl rfl ?_
        refine am_iload (pc := 745) C d_La_law_745 rfl ?_
        refine am_iconst (pc := 747) (v := (1 : Int32)) C d_La_law_747 (by decide) ?_
        refine am_iadd (pc := 748) C d_La_law_748 ?_
        refine am_sld (pc := 749) C hA hsc hsb d_La_law_749 hX (fun x87 hX => ?_)
        refine am_aload_n (pc := 750) C d_La_law_750 rfl rfl ?_
        refine am_iload (pc := 751) C d_La_law_751 rfl ?_
        refine am_iconst (pc := 753) (v := (2 : Int32)) C d_La_law_753 (by decide) ?_
        refine am_iadd (pc := 754) C d_La_law_754 ?_
        refine am_sld (pc := 755) C hA hsc hsb d_La_law_755 hX (fun x88 hX => ?_)
        refine am_aload_n (pc := 756) C d_La_law_756 rfl rfl ?_
        refine am_callSW (pc := 757) (As := [.ref v1, .int x87, .int x88, .ref v3]) (st := []) (cells1 := (cells + 1)) (slots1 := (slots + 6)) C (fun _ h => h.2) (fun _ h => h) (fun q h => c_La_activity hl h) wd_4_80 wd_4_81 wd_1_0 wd_4_82 rfl rfl hd_La_activity ⟨by decide, by decide⟩ rfl (Nat.le_of_ble_eq_true rfl) d_La_law_757 ⟨by show cells + 1 ≤ 631199; omega, by show slots + 6 ≤ 7202507; omega⟩ rfl rfl rfl hX (fun q89 hX => ?_)
        refine am_istore (pc := 760) (lo1 := [some (.ref sb), some (.ref v1), some (.ref v2), some (.ref v3), some (.int v4), some (.int q89.1), none]) C d_La_law_760 (by decide) rfl ?_
        refine am_aload_n (pc := 762) C d_La_law_762 rfl rfl ?_
        refine am_aload_n (pc := 763) C d_La_law_763 rfl rfl ?_
        refine am_iload (pc := 764) C d_La_law_764 rfl ?_
        refine am_iconst (pc := 766) (v := (1 : Int32)) C d_La_law_766 (by decide) ?_
        refine am_iadd (pc := 767) C d_La_law_767 ?_
        refine am_sld (pc := 768) C hA hsc hsb d_La_law_768 hX (fun x90 hX => ?_)
        refine am_aload_n (pc := 769) C d_La_law_769 rfl rfl ?_
        refine am_iload (pc := 770) C d_La_law_770 rfl ?_
        refine am_iconst (pc := 772) (v := (2 : Int32)) C d_La_law_772 (by decide) ?_
        refine am_iadd (pc := 773) C d_La_law_773 ?_
        refine am_sld (pc := 774) C hA hsc hsb d_La_law_774 hX (fun x91 hX => ?_)
        refine am_callVi (pc := 775) (As := [.int x90, .int x91]) (st := []) (cells1 := (cells + 1)) (slots1 := (slots + 6)) C (fun _ h => h.2) (fun _ h => h) (fun q h => c_Mo_activity h) wd_5_145 wd_5_146 wd_5_147 wd_1_9 wd_5_148 rfl rfl hd_Mo_activity ⟨by decide, by decide⟩ rfl rfl (Nat.le_of_ble_eq_true rfl) d_La_law_775 ⟨by show (cells + 1) + 0 ≤ 631199; omega, by show (slots + 6) + 0 ≤ 7202507; omega⟩ rfl rfl rfl hX (fun q92 hX => ?_)
        refine am_istore (pc := 778) (lo1 := [some (.ref sb), some (.ref v1), some (.ref v2), some (.ref v3), some (.int v4), some (.int q89.1), some (.int q92.1)]) C d_La_law_778 (by decide) rfl ?_
        refine am_aload_n (pc := 780) C d_La_law_780 rfl rfl ?_
        refine am_callVi (pc := 781) (As := []) (st := []) (cells1 := (cells + 1)) (slots1 := (slots + 6)) C (fun _ h => h.2) (fun _ h => by cases h.1) (fun q h => c_Mo_thrown h) wd_4_194 wd_4_195 wd_4_196 wd_1_9 wd_4_197 rfl rfl hd_Mo_thrown ⟨by decide, by decide⟩ rfl rfl (Nat.le_of_ble_eq_true rfl) d_La_law_781 ⟨by show (cells + 1) + 0 ≤ 631199; omega, by show (slots + 6) + 0 ≤ 7202507; omega⟩ rfl rfl rfl hX (fun q93 hX => ?_)
        refine am_iload (pc := 784) C d_La_law_784 rfl ?_
        refine am_icmp_eq (pc := 786) (tgt := 791) C d_La_law_786 rfl hX (fun hX => ?_) (fun hX => ?_)
        · skip
          refine am_iload (pc := 791) C d_La_law_791 rfl ?_
          refine am_if_ne (pc := 793) (tgt := 808) C d_La_law_793 rfl hX (fun hX => ?_) (fun hX => ?_)
          · skip
            refine am_goto (pc := 808) (tgt := 887) C d_La_law_808 rfl ?_
            refine am_iinc (pc := 887) (y := (3 : Int32)) (lo1 := [some (.ref sb), some (.ref v1), some (.ref v2), some (.ref v3), some (.int (v4 + (3 : Int32))), some (.int q89.1), some (.int q92.1)]) C d_La_law_887 rfl (by decide) (by decide) rfl ?_
            refine am_goto (pc := 890) (tgt := 23) C d_La_law_890 rfl ?_
            exact am_sub (am_le_s (am_le_s (am_le_s (am_le_s (am_le_s (am_le_n (am_le_n (am_le_0)))))))) (hk23 v1 v2 v3 (v4 + (3 : Int32)) q93.2 hX (cells + 1) (slots + 6) (by omega) (by omega))
          · skip
            refine am_aload_n (pc := 796) C d_La_law_796 rfl rfl ?_
            refine am_iconst (pc := 797) (v := (0 : Int32)) C d_La_law_797 (by decide) ?_
            refine am_lald (pc := 798) C d_La_law_798 hX (fun x94 hX => ?_)
            refine am_iload (pc := 799) C d_La_law_799 rfl ?_
            refine am_i2l (pc := 801) C d_La_law_801 rfl ?_
            refine am_lcmp (pc := 802) C d_La_law_802 ?_
            refine am_if_eq (pc := 803) (tgt := 808) C d_La_law_803 rfl hX (fun hX => ?_) (fun hX => ?_)
            · skip
              refine am_goto (pc := 808) (tgt := 887) C d_La_law_808 rfl ?_
              refine am_iinc (pc := 887) (y := (3 : Int32)) (lo1 := [some (.ref sb), some (.ref v1), some (.ref v2), some (.ref v3), some (.int (v4 + (3 : Int32))), some (.int q89.1), some (.int q92.1)]) C d_La_law_887 rfl (by decide) (by decide) rfl ?_
              refine am_goto (pc := 890) (tgt := 23) C d_La_law_890 rfl ?_
              exact am_sub (am_le_s (am_le_s (am_le_s (am_le_s (am_le_s (am_le_n (am_le_n (am_le_0)))))))) (hk23 v1 v2 v3 (v4 + (3 : Int32)) q93.2 hX (cells + 1) (slots + 6) (by omega) (by omega))
            · skip
              refine am_iconst (pc := 806) (v := (0 : Int32)) C d_La_law_806 (by decide) ?_
              exact am_lawret (pc := 807) C hA hret hlk d_La_law_807 (by omega) (by omega) hr1 hX
        · skip
          refine am_iconst (pc := 789) (v := (0 : Int32)) C d_La_law_789 (by decide) ?_
          exact am_lawret (pc := 790) C hA hret hlk d_La_law_790 (by omega) (by omega) hr1 hX
      refine am_tsw (pc := 39) (k := (17 : Int32)) (tgt := 811) C d_La_law_39 (by decide) (by decide) rfl rfl hX (fun hX => ?_) (fun hn39_17 hX => ?_)
      · skip
        refine am_aload_n (pc := 811) C d_La_law_811 rfl rfl ?_
        refine am_callVi (pc := 812) (As := []) (st := []) (cells1 := cells) (slots1 := slots) C (fun _ h => h.2) (fun _ h => h) (fun q h => c_Rm_lowest h) wd_2_59 wd_2_60 wd_2_61 wd_1_1 wd_2_62 rfl rfl hd_Rm_lowest ⟨by decide, by decide⟩ rfl rfl (Nat.le_of_ble_eq_true rfl) d_La_law_812 ⟨by show cells + 0 ≤ 631199; omega, by show slots + 0 ≤ 7202507; omega⟩ rfl rfl rfl hX (fun q95 hX => ?_)
        refine am_aload_n (pc := 815) C d_La_law_815 rfl rfl ?_
        refine am_callVi (pc := 816) (As := []) (st := [.int q95.1]) (cells1 := cells) (slots1 := slots) C (fun _ h => h.2) (fun _ h => h) (fun q h => c_Mo_lowest h) wd_5_149 wd_5_150 wd_5_151 wd_1_9 wd_5_152 rfl rfl hd_Mo_lowest ⟨by decide, by decide⟩ rfl rfl (Nat.le_of_ble_eq_true rfl) d_La_law_816 ⟨by show cells + 0 ≤ 631199; omega, by show slots + 0 ≤ 7202507; omega⟩ rfl rfl rfl hX (fun q96 hX => ?_)
        refine am_icmp_eq (pc := 819) (tgt := 887) C d_La_law_819 rfl hX (fun hX => ?_) (fun hX => ?_)
        · skip
          refine am_iinc (pc := 887) (y := (3 : Int32)) (lo1 := [some (.ref sb), some (.ref v1), some (.ref v2), some (.ref v3), some (.int (v4 + (3 : Int32))), none, none]) C d_La_law_887 rfl (by decide) (by decide) rfl ?_
          refine am_goto (pc := 890) (tgt := 23) C d_La_law_890 rfl ?_
          exact (hk23 v1 v2 v3 (v4 + (3 : Int32)) q96.2 hX cells slots (by omega) (by omega))
        · skip
          refine am_iconst (pc := 822) (v := (0 : Int32)) C d_La_law_822 (by decide) ?_
          exact am_lawret (pc := 823) C hA hret hlk d_La_law_823 (by omega) (by omega) hr1 hX
      refine am_tsw (pc := 39) (k := (18 : Int32)) (tgt := 824) C d_La_law_39 (by decide) (by decide) rfl rfl hX (fun hX => ?_) (fun hn39_18 hX => ?_)
      · skip
        refine am_aload_n (pc := 824) C d_La_law_824 rfl rfl ?_
        refine am_aload_n (pc := 825) C d_La_law_825 rfl rfl ?_
        refine am_iload (pc := 826) C d_La_law_826 rfl ?_
        refine am_iconst (pc := 828) (v := (1 : Int32)) C d_La_law_828 (by decide) ?_
        refine am_iadd (pc := 829) C d_La_law_829 ?_
        refine am_sld (pc := 830) C hA hsc hsb d_La_law_830 hX (fun x97 hX => ?_)
        refine am_aload_n (pc := 831) C d_La_law_831 rfl rfl ?_
        refine am_callSW (pc := 832) (As := [.ref v1, .int x97, .ref v3]) (st := []) (cells1 := (cells + 1)) (slots1 := (slots + 6)) C (fun _ h => h.2) (fun _ h => h) (fun q h => c_La_could hl h) wd_4_87 wd_4_88 wd_1_0 wd_4_89 rfl rfl hd_La_could ⟨by decide, by decide⟩ rfl (Nat.le_of_ble_eq_true rfl) d_La_law_832 ⟨by show cells + 1 ≤ 631199; omega, by show slots + 6 ≤ 7202507; omega⟩ rfl rfl rfl hX (fun q98 hX => ?_)
        refine am_istore (pc := 835) (lo1 := [some (.ref sb), some (.ref v1), some (.ref v2), some (.ref v3), some (.int v4), some (.int q98.1), none]) C d_La_law_835 (by decide) rfl ?_
        refine am_aload_n (pc := 837) C d_La_law_837 rfl rfl ?_
        refine am_aload_n (pc := 838) C d_La_law_838 rfl rfl ?_
        refine am_iload (pc := 839) C d_La_law_839 rfl ?_
        refine am_iconst (pc := 841) (v := (1 : Int32)) C d_La_law_841 (by decide) ?_
        refine am_iadd (pc := 842) C d_La_law_842 ?_
        refine am_sld (pc := 843) C hA hsc hsb d_La_law_843 hX (fun x99 hX => ?_)
        refine am_callVi (pc := 844) (As := [.int x99]) (st := []) (cells1 := (cells + 1)) (slots1 := (slots + 6)) C (fun _ h => h.2) (fun _ h => h) (fun q h => c_Mo_could h) wd_5_153 wd_5_154 wd_5_155 wd_1_9 wd_5_156 rfl rfl hd_Mo_could ⟨by decide, by decide⟩ rfl rfl (Nat.le_of_ble_eq_true rfl) d_La_law_844 ⟨by show (cells + 1) + 0 ≤ 631199; omega, by show (slots + 6) + 0 ≤ 7202507; omega⟩ rfl rfl rfl hX (fun q100 hX => ?_)
        refine am_istore (pc := 847) (lo1 := [some (.ref sb), some (.ref v1), some (.ref v2), some (.ref v3), some (.int v4), some (.int q98.1), some (.int q100.1)]) C d_La_law_847 (by decide) rfl ?_
        refine am_aload_n (pc := 849) C d_La_law_849 rfl rfl ?_
        refine am_callVi (pc := 850) (As := []) (st := []) (cells1 := (cells + 1)) (slots1 := (slots + 6)) C (fun _ h => h.2) (fun _ h => by cases h.1) (fun q h => c_Mo_thrown h) wd_4_194 wd_4_195 wd_4_196 wd_1_9 wd_4_197 rfl rfl hd_Mo_thrown ⟨by decide, by decide⟩ rfl rfl (Nat.le_of_ble_eq_true rfl) d_La_law_850 ⟨by show (cells + 1) + 0 ≤ 631199; omega, by show (slots + 6) + 0 ≤ 7202507; omega⟩ rfl rfl rfl hX (fun q101 hX => ?_)
        refine am_iload (pc := 853) C d_La_law_853 rfl ?_
        refine am_icmp_eq (pc := 855) (tgt := 860) C d_La_law_855 rfl hX (fun hX => ?_) (fun hX => ?_)
        · skip
          refine am_iload (pc := 860) C d_La_law_860 rfl ?_
          refine am_if_ne (pc := 862) (tgt := 884) C d_La_law_862 rfl hX (fun hX => ?_) (fun hX => ?_)
          · skip
            refine am_goto (pc := 884) (tgt := 887) C d_La_law_884 rfl ?_
            refine am_iinc (pc := 887) (y := (3 : Int32)) (lo1 := [some (.ref sb), some (.ref v1), some (.ref v2), some (.ref v3), some (.int (v4 + (3 : Int32))), some (.int q98.1), some (.int q100.1)]) C d_La_law_887 rfl (by decide) (by decide) rfl ?_
            refine am_goto (pc := 890) (tgt := 23) C d_La_law_890 rfl ?_
            exact am_sub (am_le_s (am_le_s (am_le_s (am_le_s (am_le_s (am_le_n (am_le_n (am_le_0)))))))) (hk23 v1 v2 v3 (v4 + (3 : Int32)) q101.2 hX (cells + 1) (slots + 6) (by omega) (by omega))
          · skip
            refine am_aload_n (pc := 865) C d_La_law_865 rfl rfl ?_
            refine am_iconst (pc := 866) (v := (0 : Int32)) C d_La_law_866 (by decide) ?_
            refine am_lald (pc := 867) C d_La_law_867 hX (fun x102 hX => ?_)
            refine am_iload (pc := 868) C d_La_law_868 rfl ?_
            refine am_if_eq (pc := 870) (tgt := 877) C d_La_law_870 rfl hX (fun hX => ?_) (fun hX => ?_)
            · skip
              refine am_lconst (pc := 877) (v := Int32.toInt64 (0 : Int32)) C d_La_law_877 (by decide) ?_
              exact am_sub (am_le_s (am_le_s (am_le_s (am_le_s (am_le_s (am_le_n (am_le_n (am_le_0)))))))) (L_La_law_878 C hl hret hlk hA hsc hsb hr1 hk23 hc hs v1 v2 v3 v4 (0 : Int32) x102 q101.2 hX)
            · skip
              refine am_lconst (pc := 873) (v := Int32.toInt64 (1 : Int32)) C d_La_law_873 (by decide) ?_
              refine am_goto (pc := 874) (tgt := 878) C d_La_law_874 rfl ?_
              exact am_sub (am_le_s (am_le_s (am_le_s (am_le_s (am_le_s (am_le_n (am_le_n (am_le_0)))))))) (L_La_law_878 C hl hret hlk hA hsc hsb hr1 hk23 hc hs v1 v2 v3 v4 (1 : Int32) x102 q101.2 hX)
        · skip
          refine am_iconst (pc := 858) (v := (0 : Int32)) C d_La_law_858 (by decide) ?_
          exact am_lawret (pc := 859) C hA hret hlk d_La_law_859 (by omega) (by omega) hr1 hX
      have hout : Int32.toInt (x9 &&& (31 : Int32)) < 0 ∨ 18 < Int32.toInt (x9 &&& (31 : Int32)) := by
        have q60 := am_ne (k := 0) hn39_0 (by decide)
        have q61 := am_ne (k := 1) hn39_1 (by decide)
        have q62 := am_ne (k := 2) hn39_2 (by decide)
        have q63 := am_ne (k := 3) hn39_3 (by decide)
        have q64 := am_ne (k := 4) hn39_4 (by decide)
        have q65 := am_ne (k := 5) hn39_5 (by decide)
        have q66 := am_ne (k := 6) hn39_6 (by decide)
        have q67 := am_ne (k := 7) hn39_7 (by decide)
        have q68 := am_ne (k := 8) hn39_8 (by decide)
        have q69 := am_ne (k := 9) hn39_9 (by decide)
        have q710 := am_ne (k := 10) hn39_10 (by decide)
        have q711 := am_ne (k := 11) hn39_11 (by decide)
        have q712 := am_ne (k := 12) hn39_12 (by decide)
        have q713 := am_ne (k := 13) hn39_13 (by decide)
        have q714 := am_ne (k := 14) hn39_14 (by decide)
        have q715 := am_ne (k := 15) hn39_15 (by decide)
        have q716 := am_ne (k := 16) hn39_16 (by decide)
        have q717 := am_ne (k := 17) hn39_17 (by decide)
        have q718 := am_ne (k := 18) hn39_18 (by decide)
        omega
      refine am_tableOut (pc := 39) (tgt := 887) C d_La_law_39 hout rfl ?_
      refine am_iinc (pc := 887) (y := (3 : Int32)) (lo1 := [some (.ref sb), some (.ref v1), some (.ref v2), some (.ref v3), some (.int (v4 + (3 : Int32))), none, none]) C d_La_law_887 rfl (by decide) (by decide) rfl ?_
      refine am_goto (pc := 890) (tgt := 23) C d_La_law_890 rfl ?_
      exact (hk23 v1 v2 v3 (v4 + (3 : Int32)) w hX cells slots (by omega) (by omega))
def f_La_law (L : Nat) (xs : Nat → Int32) (w : am_w) : Option (Int32 × am_w) := (am_let (am_nw (.inl 0) w) fun w1 => ((f_Rm_init w.1 w1).bind fun q3 => (am_let (am_nw (.inl 7) q3.2) fun w4 => ((f_Mo_init q3.2.1 w4).bind fun q6 => (am_let (am_nw (.inr (.long, 1)) q6.2) fun w7 => (f_La_law_23 L xs 600 w.1 q3.2.1 q6.2.1 (0 : Int32) w7))))))
set_option maxHeartbeats 4000000 in
theorem c_La_law {p : Program} {l : Launch} {e : Env} {s : State} {m : MethodId} {below : List Frame} {meth : Method} {c : Code} {D : va_G} {A : Nat → Prop} {sb L : Nat} {xs : Nat → Int32} {r : Int32 × am_w} (C : am_C p m c code 7 s #[Value.ref sb] am_W "RoverMinutesLaw" D classes A) (hl : l.stackTraces = false) (hret : meth.sig.returnType = ret) (hlk : meth.locks = false) (hA : ∀ q, A q → s.heap.size ≤ q) (hsc : va_X sb L xs s s.heap) (hsb : sb < s.heap.size) (hr1 : r.1 = 1) {w : am_w} (hX : f_La_law L xs w = some r) : am_V p l e room_1 s m #[Value.ref sb] below meth c D classes tys A (am_F A true) 7 0 0 (lw_Z below #[Value.ref sb] s) 0 [some (.ref sb), none, none, none, none, none, none] [] w := by
  unfold f_La_law at hX
  refine am_new (pc := 0) (ci := 0) C hin_Rm t_Rm_ok df_Rm wd_1_21 wd_1_22 wd_1_1 rfl (by decide) (by decide) d_La_law_0 ?_
  obtain ⟨w1, ew1, hX⟩ := am_let_of hX
  rw [← ew1]
  refine am_dup (pc := 3) C d_La_law_3 rfl ?_
  refine am_callI (pc := 4) (As := []) (st := [.ref w.1]) (cells1 := 29) (slots1 := 492) C (fun _ h => h.2) (fun _ h => h) (fun q h => c_Rm_init h) wd_1_25 rfl rfl wd_1_1 wd_1_23 wd_1_24 rfl hd_Rm_init ⟨by decide, by decide⟩ rfl (Nat.le_of_ble_eq_true rfl) d_La_law_4 ⟨by decide, by decide⟩ rfl rfl rfl hX (fun q3 hX => ?_)
  refine am_astore_n (pc := 7) (lo1 := [some (.ref sb), some (.ref w.1), none, none, none, none, none]) C d_La_law_7 rfl (by decide) rfl ?_
  refine am_new (pc := 8) (ci := 7) C hin_Mo t_Mo_ok df_Mo wd_4_94 wd_4_95 wd_1_9 rfl (by decide) (by decide) d_La_law_8 ?_
  obtain ⟨w4, ew4, hX⟩ := am_let_of hX
  rw [← ew4]
  refine am_dup (pc := 11) C d_La_law_11 rfl ?_
  refine am_callI (pc := 12) (As := []) (st := [.ref q3.2.1]) (cells1 := 46) (slots1 := 851) C (fun _ h => h.2) (fun _ h => h) (fun q h => c_Mo_init h) wd_4_98 rfl rfl wd_1_9 wd_4_96 wd_4_97 rfl hd_Mo_init ⟨by decide, by decide⟩ rfl (Nat.le_of_ble_eq_true rfl) d_La_law_12 ⟨by decide, by decide⟩ rfl rfl rfl hX (fun q6 hX => ?_)
  refine am_astore_n (pc := 15) (lo1 := [some (.ref sb), some (.ref w.1), some (.ref q3.2.1), none, none, none, none]) C d_La_law_15 rfl (by decide) rfl ?_
  refine am_iconst (pc := 16) (v := (1 : Int32)) C d_La_law_16 (by decide) ?_
  refine am_newa (pc := 17) (atype := .long) (N := 1) (t9 := .long) C wd_5_157 rfl rfl (by decide) (by decide) (by decide) (by decide) (by decide) d_La_law_17 ?_
  obtain ⟨w7, ew7, hX⟩ := am_let_of hX
  rw [← ew7]
  refine am_astore_n (pc := 19) (lo1 := [some (.ref sb), some (.ref w.1), some (.ref q3.2.1), some (.ref q6.2.1), none, none, none]) C d_La_law_19 rfl (by decide) rfl ?_
  refine am_iconst (pc := 20) (v := (0 : Int32)) C d_La_law_20 (by decide) ?_
  refine am_istore (pc := 21) (lo1 := [some (.ref sb), some (.ref w.1), some (.ref q3.2.1), some (.ref q6.2.1), some (.int (0 : Int32)), none, none]) C d_La_law_21 (by decide) rfl ?_
  exact (L_La_law_23 C hl hret hlk hA hsc hsb hr1 600 w.1 q3.2.1 q6.2.1 (0 : Int32) w7 hX 47 852 (by decide) (by decide))
