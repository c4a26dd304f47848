set_option maxRecDepth 20000 in
theorem ck300 : codeB 17 false code 0 ac300 = true := codeB_app ck300_0 (codeB_app ck300_1 (codeB_app ck300_2 (codeB_app ck300_3 (codeB_app ck300_4 (codeB_app ck300_5 (codeB_app ck300_6 (codeB_app ck300_7 (codeB_app ck300_8 (codeB_app ck300_9 (codeB_app ck300_10 (codeB_app ck300_11 (codeB_app ck300_12 (codeB_app ck300_13 (ck300_14))))))))))))))
theorem cm300 : cOkM 300 ac300 := ⟨_, _, _, _, 17, false, rfl, rfl, (fun q => by cases q), ck300⟩
def allI {α : Type} (p : Nat → α → Prop) : Nat → List α → Prop
  | _, [] => True
  | q, a :: l => p q a ∧ allI p (q + 1) l
theorem allI_at {α : Type} {p : Nat → α → Prop} : ∀ {l : List α} {q : Nat}, allI p q l → ∀ {i : Nat} {a : α}, l[i]? = some a → p (q + i) a
  | [], _, _, _, _, h => by simp at h
  | b :: l, q, hc, 0, a, h => by simp at h; subst h; exact hc.1
  | b :: l, q, hc, i + 1, a, h => by
    rw [List.getElem?_cons_succ] at h
    have := allI_at hc.2 h
    rw [show q + (i + 1) = q + 1 + i by omega]
    exact this
theorem allI_app {α : Type} {p : Nat → α → Prop} : ∀ {l l2 : List α} {q : Nat}, allI p q l → allI p (q + l.length) l2 → allI p q (l ++ l2)
  | [], l2, q, _, h2 => by simpa using h2
  | a :: l, l2, q, h1, h2 => by
    refine ⟨h1.1, allI_app h1.2 ?_⟩
    rw [List.length_cons] at h2
    rw [show q + 1 + l.length = q + (l.length + 1) by omega]
    exact h2
def aCode_0 : List (List (Option aI)) := [ac0, ac1, ac2, ac3, ac4, ac5, ac6, ac7, ac8, ac9, ac10, ac11, ac12, ac13, ac14, ac15, ac16, ac17, ac18, ac19, ac20, ac21, ac22, ac23, ac24, ac25, ac26, ac27, ac28, ac29, ac30, ac31, ac32, ac33, ac34, ac35, ac36, ac37, ac38, ac39]
theorem aCode_0ok : allI cOkM 0 aCode_0 := ⟨cm0, ⟨cm1, ⟨cm2, ⟨cm3, ⟨cm4, ⟨cm5, ⟨cm6, ⟨cm7, ⟨cm8, ⟨cm9, ⟨cm10, ⟨cm11, ⟨cm12, ⟨cm13, ⟨cm14, ⟨cm15, ⟨cm16, ⟨cm17, ⟨cm18, ⟨cm19, ⟨cm20, ⟨cm21, ⟨cm22, ⟨cm23, ⟨cm24, ⟨cm25, ⟨cm26, ⟨cm27, ⟨cm28, ⟨cm29, ⟨cm30, ⟨cm31, ⟨cm32, ⟨cm33, ⟨cm34, ⟨cm35, ⟨cm36, ⟨cm37, ⟨cm38, ⟨cm39, trivial⟩⟩⟩⟩⟩⟩⟩⟩⟩⟩⟩⟩⟩⟩⟩⟩⟩⟩⟩⟩⟩⟩⟩⟩⟩⟩⟩⟩⟩⟩⟩⟩⟩⟩⟩⟩⟩⟩⟩⟩
def aCode_1 : List (List (Option aI)) := [ac40, ac41, ac42, ac43, ac44, ac45, ac46, ac47, ac48, ac49, ac50, ac51, ac52, ac53, ac54, ac55, ac56, ac57, ac58, ac59, ac60, ac61, ac62, ac63, ac64, ac65, ac66, ac67, ac68, ac69, ac70, ac71, ac72, ac73, ac74, ac75, ac76, ac77, ac78, ac79]
theorem aCode_1ok : allI cOkM 40 aCode_1 := ⟨cm40, ⟨cm41, ⟨cm42, ⟨cm43, ⟨cm44, ⟨cm45, ⟨cm46, ⟨cm47, ⟨cm48, ⟨cm49, ⟨cm50, ⟨cm51, ⟨cm52, ⟨cm53, ⟨cm54, ⟨cm55, ⟨cm56, ⟨cm57, ⟨cm58, ⟨cm59, ⟨cm60, ⟨cm61, ⟨cm62, ⟨cm63, ⟨cm64, ⟨cm65, ⟨cm66, ⟨cm67, ⟨cm68, ⟨cm69, ⟨cm70, ⟨cm71, ⟨cm72, ⟨cm73, ⟨cm74, ⟨cm75, ⟨cm76, ⟨cm77, ⟨cm78, ⟨cm79, trivial⟩⟩⟩⟩⟩⟩⟩⟩⟩⟩⟩⟩⟩⟩⟩⟩⟩⟩⟩⟩⟩⟩⟩⟩⟩⟩⟩⟩⟩⟩⟩⟩⟩⟩⟩⟩⟩⟩⟩⟩
def aCode_2 : List (List (Option aI)) := [ac80, ac81, ac82, ac83, ac84, ac85, ac86, ac87, ac88, ac89, ac90, ac91, ac92, ac93, ac94, ac95, ac96, ac97, ac98, ac99, ac100, ac101, ac102, ac103, ac104, ac105, ac106, ac107, ac108, ac109, ac110, ac111, ac112, ac113, ac114, ac115, ac116, ac117, ac118, ac119]
theorem aCode_2ok : allI cOkM 80 aCode_2 := ⟨cm80, ⟨cm81, ⟨cm82, ⟨cm83, ⟨cm84, ⟨cm85, ⟨cm86, ⟨cm87, ⟨cm88, ⟨cm89, ⟨cm90, ⟨cm91, ⟨cm92, ⟨cm93, ⟨cm94, ⟨cm95, ⟨cm96, ⟨cm97, ⟨cm98, ⟨cm99, ⟨cm100, ⟨cm101, ⟨cm102, ⟨cm103, ⟨cm104, ⟨cm105, ⟨cm106, ⟨cm107, ⟨cm108, ⟨cm109, ⟨cm110, ⟨cm111, ⟨cm112, ⟨cm113, ⟨cm114, ⟨cm115, ⟨cm116, ⟨cm117, ⟨cm118, ⟨cm119, trivial⟩⟩⟩⟩⟩⟩⟩⟩⟩⟩⟩⟩⟩⟩⟩⟩⟩⟩⟩⟩⟩⟩⟩⟩⟩⟩⟩⟩⟩⟩⟩⟩⟩⟩⟩⟩⟩⟩⟩⟩
def aCode_3 : List (List (Option aI)) := [ac120, ac121, ac122, ac123, ac124, ac125, ac126, ac127, ac128, ac129, ac130, ac131, ac132, ac133, ac134, ac135, ac136, ac137, ac138, ac139, ac140, ac141, ac142, ac143, ac144, ac145, ac146, ac147, ac148, ac149, ac150, ac151, ac152, ac153, ac154, ac155, ac156, ac157, ac158, ac159]
theorem aCode_3ok : allI cOkM 120 aCode_3 := ⟨cm120, ⟨cm121, ⟨cm122, ⟨cm123, ⟨cm124, ⟨cm125, ⟨cm126, ⟨cm127, ⟨cm128, ⟨cm129, ⟨cm130, ⟨cm131, ⟨cm132, ⟨cm133, ⟨cm134, ⟨cm135, ⟨cm136, ⟨cm137, ⟨cm138, ⟨cm139, ⟨cm140, ⟨cm141, ⟨cm142, ⟨cm143, ⟨cm144, ⟨cm145, ⟨cm146, ⟨cm147, ⟨cm148, ⟨cm149, ⟨cm150, ⟨cm151, ⟨cm152, ⟨cm153, ⟨cm154, ⟨cm155, ⟨cm156, ⟨cm157, ⟨cm158, ⟨cm159, trivial⟩⟩⟩⟩⟩⟩⟩⟩⟩⟩⟩⟩⟩⟩⟩⟩⟩⟩⟩⟩⟩⟩⟩⟩⟩⟩⟩⟩⟩⟩⟩⟩⟩⟩⟩⟩⟩⟩⟩⟩
def aCode_4 : List (List (Option aI)) := [ac160, ac161, ac162, ac163, ac164, ac165, ac166, ac167, ac168, ac169, ac170, ac171, ac172, ac173, ac174, ac175, ac176, ac177, ac178, ac179, ac180, ac181, ac182, ac183, ac184, ac185, ac186, ac187, ac188, ac189, ac190, ac191, ac192, ac193, ac194, ac195, ac196, ac197, ac198, ac199]
theorem aCode_4ok : allI cOkM 160 aCode_4 := ⟨cm160, ⟨cm161, ⟨cm162, ⟨cm163, ⟨cm164, ⟨cm165, ⟨cm166, ⟨cm167, ⟨cm168, ⟨cm169, ⟨cm170, ⟨cm171, ⟨cm172, ⟨cm173, ⟨cm174, ⟨cm175, ⟨cm176, ⟨cm177, ⟨cm178, ⟨cm179, ⟨cm180, ⟨cm181, ⟨cm182, ⟨cm183, ⟨cm184, ⟨cm185, ⟨cm186, ⟨cm187, ⟨cm188, ⟨cm189, ⟨cm190, ⟨cm191, ⟨cm192, ⟨cm193, ⟨cm194, ⟨cm195, ⟨cm196, ⟨cm197, ⟨cm198, ⟨cm199, trivial⟩⟩⟩⟩⟩⟩⟩⟩⟩⟩⟩⟩⟩⟩⟩⟩⟩⟩⟩⟩⟩⟩⟩⟩⟩⟩⟩⟩⟩⟩⟩⟩⟩⟩⟩⟩⟩⟩⟩⟩
def aCode_5 : List (List (Option aI)) := [ac200, ac201, ac202, ac203, ac204, ac205, ac206, ac207, ac208, ac209, ac210, ac211, ac212, ac213, ac214, ac215, ac216, ac217, ac218, ac219, ac220, ac221, ac222, ac223, ac224, ac225, ac226, ac227, ac228, ac229, ac230, ac231, ac232, ac233, ac234, ac235, ac236, ac237, ac238, ac239]
theorem aCode_5ok : allI cOkM 200 aCode_5 := ⟨cm200, ⟨cm201, ⟨cm202, ⟨cm203, ⟨cm204, ⟨cm205, ⟨cm206, ⟨cm207, ⟨cm208, ⟨cm209, ⟨cm210, ⟨cm211, ⟨cm212, ⟨cm213, ⟨cm214, ⟨cm215, ⟨cm216, ⟨cm217, ⟨cm218, ⟨cm219, ⟨cm220, ⟨cm221, ⟨cm222, ⟨cm223, ⟨cm224, ⟨cm225, ⟨cm226, ⟨cm227, ⟨cm228, ⟨cm229, ⟨cm230, ⟨cm231, ⟨cm232, ⟨cm233, ⟨cm234, ⟨cm235, ⟨cm236, ⟨cm237, ⟨cm238, ⟨cm239, trivial⟩⟩⟩⟩⟩⟩⟩⟩⟩⟩⟩⟩⟩⟩⟩⟩⟩⟩⟩⟩⟩⟩⟩⟩⟩⟩⟩⟩⟩⟩⟩⟩⟩⟩⟩⟩⟩⟩⟩⟩
def aCode_6 : List (List (Option aI)) := [ac240, ac241, ac242, ac243, ac244, ac245, ac246, ac247, ac248, ac249, ac250, ac251, ac252, ac253, ac254, ac255, ac256, ac257, ac258, ac259, ac260, ac261, ac262, ac263, ac264, ac265, ac266, ac267, ac268, ac269, ac270, ac271, ac272, ac273, ac274, ac275, ac276, ac277, ac278, ac279]
theorem aCode_6ok : allI cOkM 240 aCode_6 := ⟨cm240, ⟨cm241, ⟨cm242, ⟨cm243, ⟨cm244, ⟨cm245, ⟨cm246, ⟨cm247, ⟨cm248, ⟨cm249, ⟨cm250, ⟨cm251, ⟨cm252, ⟨cm253, ⟨cm254, ⟨cm255, ⟨cm256, ⟨cm257, ⟨cm258, ⟨cm259, ⟨cm260, ⟨cm261, ⟨cm262, ⟨cm263, ⟨cm264, ⟨cm265, ⟨cm266, ⟨cm267, ⟨cm268, ⟨cm269, ⟨cm270, ⟨cm271, ⟨cm272, ⟨cm273, ⟨cm274, ⟨cm275, ⟨cm276, ⟨cm277, ⟨cm278, ⟨cm279, trivial⟩⟩⟩⟩⟩⟩⟩⟩⟩⟩⟩⟩⟩⟩⟩⟩⟩⟩⟩⟩⟩⟩⟩⟩⟩⟩⟩⟩⟩⟩⟩⟩⟩⟩⟩⟩⟩⟩⟩⟩
def aCode_7 : List (List (Option aI)) := [ac280, ac281, ac282, ac283, ac284, ac285, ac286, ac287, ac288, ac289, ac290, ac291, ac292, ac293]
theorem aCode_7ok : allI cOkM 280 aCode_7 := ⟨cm280, ⟨cm281, ⟨cm282, ⟨cm283, ⟨cm284, ⟨cm285, ⟨cm286, ⟨cm287, ⟨cm288, ⟨cm289, ⟨cm290, ⟨cm291, ⟨cm292, ⟨cm293, trivial⟩⟩⟩⟩⟩⟩⟩⟩⟩⟩⟩⟩⟩⟩
set_option maxRecDepth 20000 in
theorem aCode_all : allI cOkM 0 aCode := by
  show allI cOkM 0 (aCode_0 ++ (aCode_1 ++ (aCode_2 ++ (aCode_3 ++ (aCode_4 ++ (aCode_5 ++ (aCode_6 ++ (aCode_7))))))))
  exact allI_app aCode_0ok (allI_app aCode_1ok (allI_app aCode_2ok (allI_app aCode_3ok (allI_app aCode_4ok (allI_app aCode_5ok (allI_app aCode_6ok (aCode_7ok)))))))
theorem aCD_ok : aOk aMI aCD := aOk_of (fun k l h => by
  split at h
  · rename_i hk
    subst hk
    cases h
    exact cm300
  · have := allI_at aCode_all h
    rw [Nat.zero_add] at this
    exact this)
