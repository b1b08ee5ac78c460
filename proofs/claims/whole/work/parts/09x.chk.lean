theorem e_labs_len : e_labs.length = 562 := by decide +kernel
set_option maxRecDepth 20000 in
theorem e_chk_0 : ∀ i, i < 40 → ∃ w, c_blk (e_lm (0 + i)) (e_lbl (0 + i)) w = true := by
  intro i h
  match i, h with
  | 0, _ => exact ⟨_, e_q0⟩
  | 1, _ => exact ⟨_, e_q1⟩
  | 2, _ => exact ⟨_, e_q2⟩
  | 3, _ => exact ⟨_, e_q3⟩
  | 4, _ => exact ⟨_, e_q4⟩
  | 5, _ => exact ⟨_, e_q5⟩
  | 6, _ => exact ⟨_, e_q6⟩
  | 7, _ => exact ⟨_, e_q7⟩
  | 8, _ => exact ⟨_, e_q8⟩
  | 9, _ => exact ⟨_, e_q9⟩
  | 10, _ => exact ⟨_, e_q10⟩
  | 11, _ => exact ⟨_, e_q11⟩
  | 12, _ => exact ⟨_, e_q12⟩
  | 13, _ => exact ⟨_, e_q13⟩
  | 14, _ => exact ⟨_, e_q14⟩
  | 15, _ => exact ⟨_, e_q15⟩
  | 16, _ => exact ⟨_, e_q16⟩
  | 17, _ => exact ⟨_, e_q17⟩
  | 18, _ => exact ⟨_, e_q18⟩
  | 19, _ => exact ⟨_, e_q19⟩
  | 20, _ => exact ⟨_, e_q20⟩
  | 21, _ => exact ⟨_, e_q21⟩
  | 22, _ => exact ⟨_, e_q22⟩
  | 23, _ => exact ⟨_, e_q23⟩
  | 24, _ => exact ⟨_, e_q24⟩
  | 25, _ => exact ⟨_, e_q25⟩
  | 26, _ => exact ⟨_, e_q26⟩
  | 27, _ => exact ⟨_, e_q27⟩
  | 28, _ => exact ⟨_, e_q28⟩
  | 29, _ => exact ⟨_, e_q29⟩
  | 30, _ => exact ⟨_, e_q30⟩
  | 31, _ => exact ⟨_, e_q31⟩
  | 32, _ => exact ⟨_, e_q32⟩
  | 33, _ => exact ⟨_, e_q33⟩
  | 34, _ => exact ⟨_, e_q34⟩
  | 35, _ => exact ⟨_, e_q35⟩
  | 36, _ => exact ⟨_, e_q36⟩
  | 37, _ => exact ⟨_, e_q37⟩
  | 38, _ => exact ⟨_, e_q38⟩
  | 39, _ => exact ⟨_, e_q39⟩
  | i + 40, h => omega
set_option maxRecDepth 20000 in
theorem e_chk_1 : ∀ i, i < 40 → ∃ w, c_blk (e_lm (40 + i)) (e_lbl (40 + i)) w = true := by
  intro i h
  match i, h with
  | 0, _ => exact ⟨_, e_q40⟩
  | 1, _ => exact ⟨_, e_q41⟩
  | 2, _ => exact ⟨_, e_q42⟩
  | 3, _ => exact ⟨_, e_q43⟩
  | 4, _ => exact ⟨_, e_q44⟩
  | 5, _ => exact ⟨_, e_q45⟩
  | 6, _ => exact ⟨_, e_q46⟩
  | 7, _ => exact ⟨_, e_q47⟩
  | 8, _ => exact ⟨_, e_q48⟩
  | 9, _ => exact ⟨_, e_q49⟩
  | 10, _ => exact ⟨_, e_q50⟩
  | 11, _ => exact ⟨_, e_q51⟩
  | 12, _ => exact ⟨_, e_q52⟩
  | 13, _ => exact ⟨_, e_q53⟩
  | 14, _ => exact ⟨_, e_q54⟩
  | 15, _ => exact ⟨_, e_q55⟩
  | 16, _ => exact ⟨_, e_q56⟩
  | 17, _ => exact ⟨_, e_q57⟩
  | 18, _ => exact ⟨_, e_q58⟩
  | 19, _ => exact ⟨_, e_q59⟩
  | 20, _ => exact ⟨_, e_q60⟩
  | 21, _ => exact ⟨_, e_q61⟩
  | 22, _ => exact ⟨_, e_q62⟩
  | 23, _ => exact ⟨_, e_q63⟩
  | 24, _ => exact ⟨_, e_q64⟩
  | 25, _ => exact ⟨_, e_q65⟩
  | 26, _ => exact ⟨_, e_q66⟩
  | 27, _ => exact ⟨_, e_q67⟩
  | 28, _ => exact ⟨_, e_q68⟩
  | 29, _ => exact ⟨_, e_q69⟩
  | 30, _ => exact ⟨_, e_q70⟩
  | 31, _ => exact ⟨_, e_q71⟩
  | 32, _ => exact ⟨_, e_q72⟩
  | 33, _ => exact ⟨_, e_q73⟩
  | 34, _ => exact ⟨_, e_q74⟩
  | 35, _ => exact ⟨_, e_q75⟩
  | 36, _ => exact ⟨_, e_q76⟩
  | 37, _ => exact ⟨_, e_q77⟩
  | 38, _ => exact ⟨_, e_q78⟩
  | 39, _ => exact ⟨_, e_q79⟩
  | i + 40, h => omega
set_option maxRecDepth 20000 in
theorem e_chk_2 : ∀ i, i < 40 → ∃ w, c_blk (e_lm (80 + i)) (e_lbl (80 + i)) w = true := by
  intro i h
  match i, h with
  | 0, _ => exact ⟨_, e_q80⟩
  | 1, _ => exact ⟨_, e_q81⟩
  | 2, _ => exact ⟨_, e_q82⟩
  | 3, _ => exact ⟨_, e_q83⟩
  | 4, _ => exact ⟨_, e_q84⟩
  | 5, _ => exact ⟨_, e_q85⟩
  | 6, _ => exact ⟨_, e_q86⟩
  | 7, _ => exact ⟨_, e_q87⟩
  | 8, _ => exact ⟨_, e_q88⟩
  | 9, _ => exact ⟨_, e_q89⟩
  | 10, _ => exact ⟨_, e_q90⟩
  | 11, _ => exact ⟨_, e_q91⟩
  | 12, _ => exact ⟨_, e_q92⟩
  | 13, _ => exact ⟨_, e_q93⟩
  | 14, _ => exact ⟨_, e_q94⟩
  | 15, _ => exact ⟨_, e_q95⟩
  | 16, _ => exact ⟨_, e_q96⟩
  | 17, _ => exact ⟨_, e_q97⟩
  | 18, _ => exact ⟨_, e_q98⟩
  | 19, _ => exact ⟨_, e_q99⟩
  | 20, _ => exact ⟨_, e_q100⟩
  | 21, _ => exact ⟨_, e_q101⟩
  | 22, _ => exact ⟨_, e_q102⟩
  | 23, _ => exact ⟨_, e_q103⟩
  | 24, _ => exact ⟨_, e_q104⟩
  | 25, _ => exact ⟨_, e_q105⟩
  | 26, _ => exact ⟨_, e_q106⟩
  | 27, _ => exact ⟨_, e_q107⟩
  | 28, _ => exact ⟨_, e_q108⟩
  | 29, _ => exact ⟨_, e_q109⟩
  | 30, _ => exact ⟨_, e_q110⟩
  | 31, _ => exact ⟨_, e_q111⟩
  | 32, _ => exact ⟨_, e_q112⟩
  | 33, _ => exact ⟨_, e_q113⟩
  | 34, _ => exact ⟨_, e_q114⟩
  | 35, _ => exact ⟨_, e_q115⟩
  | 36, _ => exact ⟨_, e_q116⟩
  | 37, _ => exact ⟨_, e_q117⟩
  | 38, _ => exact ⟨_, e_q118⟩
  | 39, _ => exact ⟨_, e_q119⟩
  | i + 40, h => omega
set_option maxRecDepth 20000 in
theorem e_chk_3 : ∀ i, i < 40 → ∃ w, c_blk (e_lm (120 + i)) (e_lbl (120 + i)) w = true := by
  intro i h
  match i, h with
  | 0, _ => exact ⟨_, e_q120⟩
  | 1, _ => exact ⟨_, e_q121⟩
  | 2, _ => exact ⟨_, e_q122⟩
  | 3, _ => exact ⟨_, e_q123⟩
  | 4, _ => exact ⟨_, e_q124⟩
  | 5, _ => exact ⟨_, e_q125⟩
  | 6, _ => exact ⟨_, e_q126⟩
  | 7, _ => exact ⟨_, e_q127⟩
  | 8, _ => exact ⟨_, e_q128⟩
  | 9, _ => exact ⟨_, e_q129⟩
  | 10, _ => exact ⟨_, e_q130⟩
  | 11, _ => exact ⟨_, e_q131⟩
  | 12, _ => exact ⟨_, e_q132⟩
  | 13, _ => exact ⟨_, e_q133⟩
  | 14, _ => exact ⟨_, e_q134⟩
  | 15, _ => exact ⟨_, e_q135⟩
  | 16, _ => exact ⟨_, e_q136⟩
  | 17, _ => exact ⟨_, e_q137⟩
  | 18, _ => exact ⟨_, e_q138⟩
  | 19, _ => exact ⟨_, e_q139⟩
  | 20, _ => exact ⟨_, e_q140⟩
  | 21, _ => exact ⟨_, e_q141⟩
  | 22, _ => exact ⟨_, e_q142⟩
  | 23, _ => exact ⟨_, e_q143⟩
  | 24, _ => exact ⟨_, e_q144⟩
  | 25, _ => exact ⟨_, e_q145⟩
  | 26, _ => exact ⟨_, e_q146⟩
  | 27, _ => exact ⟨_, e_q147⟩
  | 28, _ => exact ⟨_, e_q148⟩
  | 29, _ => exact ⟨_, e_q149⟩
  | 30, _ => exact ⟨_, e_q150⟩
  | 31, _ => exact ⟨_, e_q151⟩
  | 32, _ => exact ⟨_, e_q152⟩
  | 33, _ => exact ⟨_, e_q153⟩
  | 34, _ => exact ⟨_, e_q154⟩
  | 35, _ => exact ⟨_, e_q155⟩
  | 36, _ => exact ⟨_, e_q156⟩
  | 37, _ => exact ⟨_, e_q157⟩
  | 38, _ => exact ⟨_, e_q158⟩
  | 39, _ => exact ⟨_, e_q159⟩
  | i + 40, h => omega
set_option maxRecDepth 20000 in
theorem e_chk_4 : ∀ i, i < 40 → ∃ w, c_blk (e_lm (160 + i)) (e_lbl (160 + i)) w = true := by
  intro i h
  match i, h with
  | 0, _ => exact ⟨_, e_q160⟩
  | 1, _ => exact ⟨_, e_q161⟩
  | 2, _ => exact ⟨_, e_q162⟩
  | 3, _ => exact ⟨_, e_q163⟩
  | 4, _ => exact ⟨_, e_q164⟩
  | 5, _ => exact ⟨_, e_q165⟩
  | 6, _ => exact ⟨_, e_q166⟩
  | 7, _ => exact ⟨_, e_q167⟩
  | 8, _ => exact ⟨_, e_q168⟩
  | 9, _ => exact ⟨_, e_q169⟩
  | 10, _ => exact ⟨_, e_q170⟩
  | 11, _ => exact ⟨_, e_q171⟩
  | 12, _ => exact ⟨_, e_q172⟩
  | 13, _ => exact ⟨_, e_q173⟩
  | 14, _ => exact ⟨_, e_q174⟩
  | 15, _ => exact ⟨_, e_q175⟩
  | 16, _ => exact ⟨_, e_q176⟩
  | 17, _ => exact ⟨_, e_q177⟩
  | 18, _ => exact ⟨_, e_q178⟩
  | 19, _ => exact ⟨_, e_q179⟩
  | 20, _ => exact ⟨_, e_q180⟩
  | 21, _ => exact ⟨_, e_q181⟩
  | 22, _ => exact ⟨_, e_q182⟩
  | 23, _ => exact ⟨_, e_q183⟩
  | 24, _ => exact ⟨_, e_q184⟩
  | 25, _ => exact ⟨_, e_q185⟩
  | 26, _ => exact ⟨_, e_q186⟩
  | 27, _ => exact ⟨_, e_q187⟩
  | 28, _ => exact ⟨_, e_q188⟩
  | 29, _ => exact ⟨_, e_q189⟩
  | 30, _ => exact ⟨_, e_q190⟩
  | 31, _ => exact ⟨_, e_q191⟩
  | 32, _ => exact ⟨_, e_q192⟩
  | 33, _ => exact ⟨_, e_q193⟩
  | 34, _ => exact ⟨_, e_q194⟩
  | 35, _ => exact ⟨_, e_q195⟩
  | 36, _ => exact ⟨_, e_q196⟩
  | 37, _ => exact ⟨_, e_q197⟩
  | 38, _ => exact ⟨_, e_q198⟩
  | 39, _ => exact ⟨_, e_q199⟩
  | i + 40, h => omega
set_option maxRecDepth 20000 in
theorem e_chk_5 : ∀ i, i < 40 → ∃ w, c_blk (e_lm (200 + i)) (e_lbl (200 + i)) w = true := by
  intro i h
  match i, h with
  | 0, _ => exact ⟨_, e_q200⟩
  | 1, _ => exact ⟨_, e_q201⟩
  | 2, _ => exact ⟨_, e_q202⟩
  | 3, _ => exact ⟨_, e_q203⟩
  | 4, _ => exact ⟨_, e_q204⟩
  | 5, _ => exact ⟨_, e_q205⟩
  | 6, _ => exact ⟨_, e_q206⟩
  | 7, _ => exact ⟨_, e_q207⟩
  | 8, _ => exact ⟨_, e_q208⟩
  | 9, _ => exact ⟨_, e_q209⟩
  | 10, _ => exact ⟨_, e_q210⟩
  | 11, _ => exact ⟨_, e_q211⟩
  | 12, _ => exact ⟨_, e_q212⟩
  | 13, _ => exact ⟨_, e_q213⟩
  | 14, _ => exact ⟨_, e_q214⟩
  | 15, _ => exact ⟨_, e_q215⟩
  | 16, _ => exact ⟨_, e_q216⟩
  | 17, _ => exact ⟨_, e_q217⟩
  | 18, _ => exact ⟨_, e_q218⟩
  | 19, _ => exact ⟨_, e_q219⟩
  | 20, _ => exact ⟨_, e_q220⟩
  | 21, _ => exact ⟨_, e_q221⟩
  | 22, _ => exact ⟨_, e_q222⟩
  | 23, _ => exact ⟨_, e_q223⟩
  | 24, _ => exact ⟨_, e_q224⟩
  | 25, _ => exact ⟨_, e_q225⟩
  | 26, _ => exact ⟨_, e_q226⟩
  | 27, _ => exact ⟨_, e_q227⟩
  | 28, _ => exact ⟨_, e_q228⟩
  | 29, _ => exact ⟨_, e_q229⟩
  | 30, _ => exact ⟨_, e_q230⟩
  | 31, _ => exact ⟨_, e_q231⟩
  | 32, _ => exact ⟨_, e_q232⟩
  | 33, _ => exact ⟨_, e_q233⟩
  | 34, _ => exact ⟨_, e_q234⟩
  | 35, _ => exact ⟨_, e_q235⟩
  | 36, _ => exact ⟨_, e_q236⟩
  | 37, _ => exact ⟨_, e_q237⟩
  | 38, _ => exact ⟨_, e_q238⟩
  | 39, _ => exact ⟨_, e_q239⟩
  | i + 40, h => omega
set_option maxRecDepth 20000 in
theorem e_chk_6 : ∀ i, i < 40 → ∃ w, c_blk (e_lm (240 + i)) (e_lbl (240 + i)) w = true := by
  intro i h
  match i, h with
  | 0, _ => exact ⟨_, e_q240⟩
  | 1, _ => exact ⟨_, e_q241⟩
  | 2, _ => exact ⟨_, e_q242⟩
  | 3, _ => exact ⟨_, e_q243⟩
  | 4, _ => exact ⟨_, e_q244⟩
  | 5, _ => exact ⟨_, e_q245⟩
  | 6, _ => exact ⟨_, e_q246⟩
  | 7, _ => exact ⟨_, e_q247⟩
  | 8, _ => exact ⟨_, e_q248⟩
  | 9, _ => exact ⟨_, e_q249⟩
  | 10, _ => exact ⟨_, e_q250⟩
  | 11, _ => exact ⟨_, e_q251⟩
  | 12, _ => exact ⟨_, e_q252⟩
  | 13, _ => exact ⟨_, e_q253⟩
  | 14, _ => exact ⟨_, e_q254⟩
  | 15, _ => exact ⟨_, e_q255⟩
  | 16, _ => exact ⟨_, e_q256⟩
  | 17, _ => exact ⟨_, e_q257⟩
  | 18, _ => exact ⟨_, e_q258⟩
  | 19, _ => exact ⟨_, e_q259⟩
  | 20, _ => exact ⟨_, e_q260⟩
  | 21, _ => exact ⟨_, e_q261⟩
  | 22, _ => exact ⟨_, e_q262⟩
  | 23, _ => exact ⟨_, e_q263⟩
  | 24, _ => exact ⟨_, e_q264⟩
  | 25, _ => exact ⟨_, e_q265⟩
  | 26, _ => exact ⟨_, e_q266⟩
  | 27, _ => exact ⟨_, e_q267⟩
  | 28, _ => exact ⟨_, e_q268⟩
  | 29, _ => exact ⟨_, e_q269⟩
  | 30, _ => exact ⟨_, e_q270⟩
  | 31, _ => exact ⟨_, e_q271⟩
  | 32, _ => exact ⟨_, e_q272⟩
  | 33, _ => exact ⟨_, e_q273⟩
  | 34, _ => exact ⟨_, e_q274⟩
  | 35, _ => exact ⟨_, e_q275⟩
  | 36, _ => exact ⟨_, e_q276⟩
  | 37, _ => exact ⟨_, e_q277⟩
  | 38, _ => exact ⟨_, e_q278⟩
  | 39, _ => exact ⟨_, e_q279⟩
  | i + 40, h => omega
set_option maxRecDepth 20000 in
theorem e_chk_7 : ∀ i, i < 40 → ∃ w, c_blk (e_lm (280 + i)) (e_lbl (280 + i)) w = true := by
  intro i h
  match i, h with
  | 0, _ => exact ⟨_, e_q280⟩
  | 1, _ => exact ⟨_, e_q281⟩
  | 2, _ => exact ⟨_, e_q282⟩
  | 3, _ => exact ⟨_, e_q283⟩
  | 4, _ => exact ⟨_, e_q284⟩
  | 5, _ => exact ⟨_, e_q285⟩
  | 6, _ => exact ⟨_, e_q286⟩
  | 7, _ => exact ⟨_, e_q287⟩
  | 8, _ => exact ⟨_, e_q288⟩
  | 9, _ => exact ⟨_, e_q289⟩
  | 10, _ => exact ⟨_, e_q290⟩
  | 11, _ => exact ⟨_, e_q291⟩
  | 12, _ => exact ⟨_, e_q292⟩
  | 13, _ => exact ⟨_, e_q293⟩
  | 14, _ => exact ⟨_, e_q294⟩
  | 15, _ => exact ⟨_, e_q295⟩
  | 16, _ => exact ⟨_, e_q296⟩
  | 17, _ => exact ⟨_, e_q297⟩
  | 18, _ => exact ⟨_, e_q298⟩
  | 19, _ => exact ⟨_, e_q299⟩
  | 20, _ => exact ⟨_, e_q300⟩
  | 21, _ => exact ⟨_, e_q301⟩
  | 22, _ => exact ⟨_, e_q302⟩
  | 23, _ => exact ⟨_, e_q303⟩
  | 24, _ => exact ⟨_, e_q304⟩
  | 25, _ => exact ⟨_, e_q305⟩
  | 26, _ => exact ⟨_, e_q306⟩
  | 27, _ => exact ⟨_, e_q307⟩
  | 28, _ => exact ⟨_, e_q308⟩
  | 29, _ => exact ⟨_, e_q309⟩
  | 30, _ => exact ⟨_, e_q310⟩
  | 31, _ => exact ⟨_, e_q311⟩
  | 32, _ => exact ⟨_, e_q312⟩
  | 33, _ => exact ⟨_, e_q313⟩
  | 34, _ => exact ⟨_, e_q314⟩
  | 35, _ => exact ⟨_, e_q315⟩
  | 36, _ => exact ⟨_, e_q316⟩
  | 37, _ => exact ⟨_, e_q317⟩
  | 38, _ => exact ⟨_, e_q318⟩
  | 39, _ => exact ⟨_, e_q319⟩
  | i + 40, h => omega
set_option maxRecDepth 20000 in
theorem e_chk_8 : ∀ i, i < 40 → ∃ w, c_blk (e_lm (320 + i)) (e_lbl (320 + i)) w = true := by
  intro i h
  match i, h with
  | 0, _ => exact ⟨_, e_q320⟩
  | 1, _ => exact ⟨_, e_q321⟩
  | 2, _ => exact ⟨_, e_q322⟩
  | 3, _ => exact ⟨_, e_q323⟩
  | 4, _ => exact ⟨_, e_q324⟩
  | 5, _ => exact ⟨_, e_q325⟩
  | 6, _ => exact ⟨_, e_q326⟩
  | 7, _ => exact ⟨_, e_q327⟩
  | 8, _ => exact ⟨_, e_q328⟩
  | 9, _ => exact ⟨_, e_q329⟩
  | 10, _ => exact ⟨_, e_q330⟩
  | 11, _ => exact ⟨_, e_q331⟩
  | 12, _ => exact ⟨_, e_q332⟩
  | 13, _ => exact ⟨_, e_q333⟩
  | 14, _ => exact ⟨_, e_q334⟩
  | 15, _ => exact ⟨_, e_q335⟩
  | 16, _ => exact ⟨_, e_q336⟩
  | 17, _ => exact ⟨_, e_q337⟩
  | 18, _ => exact ⟨_, e_q338⟩
  | 19, _ => exact ⟨_, e_q339⟩
  | 20, _ => exact ⟨_, e_q340⟩
  | 21, _ => exact ⟨_, e_q341⟩
  | 22, _ => exact ⟨_, e_q342⟩
  | 23, _ => exact ⟨_, e_q343⟩
  | 24, _ => exact ⟨_, e_q344⟩
  | 25, _ => exact ⟨_, e_q345⟩
  | 26, _ => exact ⟨_, e_q346⟩
  | 27, _ => exact ⟨_, e_q347⟩
  | 28, _ => exact ⟨_, e_q348⟩
  | 29, _ => exact ⟨_, e_q349⟩
  | 30, _ => exact ⟨_, e_q350⟩
  | 31, _ => exact ⟨_, e_q351⟩
  | 32, _ => exact ⟨_, e_q352⟩
  | 33, _ => exact ⟨_, e_q353⟩
  | 34, _ => exact ⟨_, e_q354⟩
  | 35, _ => exact ⟨_, e_q355⟩
  | 36, _ => exact ⟨_, e_q356⟩
  | 37, _ => exact ⟨_, e_q357⟩
  | 38, _ => exact ⟨_, e_q358⟩
  | 39, _ => exact ⟨_, e_q359⟩
  | i + 40, h => omega
set_option maxRecDepth 20000 in
theorem e_chk_9 : ∀ i, i < 40 → ∃ w, c_blk (e_lm (360 + i)) (e_lbl (360 + i)) w = true := by
  intro i h
  match i, h with
  | 0, _ => exact ⟨_, e_q360⟩
  | 1, _ => exact ⟨_, e_q361⟩
  | 2, _ => exact ⟨_, e_q362⟩
  | 3, _ => exact ⟨_, e_q363⟩
  | 4, _ => exact ⟨_, e_q364⟩
  | 5, _ => exact ⟨_, e_q365⟩
  | 6, _ => exact ⟨_, e_q366⟩
  | 7, _ => exact ⟨_, e_q367⟩
  | 8, _ => exact ⟨_, e_q368⟩
  | 9, _ => exact ⟨_, e_q369⟩
  | 10, _ => exact ⟨_, e_q370⟩
  | 11, _ => exact ⟨_, e_q371⟩
  | 12, _ => exact ⟨_, e_q372⟩
  | 13, _ => exact ⟨_, e_q373⟩
  | 14, _ => exact ⟨_, e_q374⟩
  | 15, _ => exact ⟨_, e_q375⟩
  | 16, _ => exact ⟨_, e_q376⟩
  | 17, _ => exact ⟨_, e_q377⟩
  | 18, _ => exact ⟨_, e_q378⟩
  | 19, _ => exact ⟨_, e_q379⟩
  | 20, _ => exact ⟨_, e_q380⟩
  | 21, _ => exact ⟨_, e_q381⟩
  | 22, _ => exact ⟨_, e_q382⟩
  | 23, _ => exact ⟨_, e_q383⟩
  | 24, _ => exact ⟨_, e_q384⟩
  | 25, _ => exact ⟨_, e_q385⟩
  | 26, _ => exact ⟨_, e_q386⟩
  | 27, _ => exact ⟨_, e_q387⟩
  | 28, _ => exact ⟨_, e_q388⟩
  | 29, _ => exact ⟨_, e_q389⟩
  | 30, _ => exact ⟨_, e_q390⟩
  | 31, _ => exact ⟨_, e_q391⟩
  | 32, _ => exact ⟨_, e_q392⟩
  | 33, _ => exact ⟨_, e_q393⟩
  | 34, _ => exact ⟨_, e_q394⟩
  | 35, _ => exact ⟨_, e_q395⟩
  | 36, _ => exact ⟨_, e_q396⟩
  | 37, _ => exact ⟨_, e_q397⟩
  | 38, _ => exact ⟨_, e_q398⟩
  | 39, _ => exact ⟨_, e_q399⟩
  | i + 40, h => omega
set_option maxRecDepth 20000 in
theorem e_chk_10 : ∀ i, i < 40 → ∃ w, c_blk (e_lm (400 + i)) (e_lbl (400 + i)) w = true := by
  intro i h
  match i, h with
  | 0, _ => exact ⟨_, e_q400⟩
  | 1, _ => exact ⟨_, e_q401⟩
  | 2, _ => exact ⟨_, e_q402⟩
  | 3, _ => exact ⟨_, e_q403⟩
  | 4, _ => exact ⟨_, e_q404⟩
  | 5, _ => exact ⟨_, e_q405⟩
  | 6, _ => exact ⟨_, e_q406⟩
  | 7, _ => exact ⟨_, e_q407⟩
  | 8, _ => exact ⟨_, e_q408⟩
  | 9, _ => exact ⟨_, e_q409⟩
  | 10, _ => exact ⟨_, e_q410⟩
  | 11, _ => exact ⟨_, e_q411⟩
  | 12, _ => exact ⟨_, e_q412⟩
  | 13, _ => exact ⟨_, e_q413⟩
  | 14, _ => exact ⟨_, e_q414⟩
  | 15, _ => exact ⟨_, e_q415⟩
  | 16, _ => exact ⟨_, e_q416⟩
  | 17, _ => exact ⟨_, e_q417⟩
  | 18, _ => exact ⟨_, e_q418⟩
  | 19, _ => exact ⟨_, e_q419⟩
  | 20, _ => exact ⟨_, e_q420⟩
  | 21, _ => exact ⟨_, e_q421⟩
  | 22, _ => exact ⟨_, e_q422⟩
  | 23, _ => exact ⟨_, e_q423⟩
  | 24, _ => exact ⟨_, e_q424⟩
  | 25, _ => exact ⟨_, e_q425⟩
  | 26, _ => exact ⟨_, e_q426⟩
  | 27, _ => exact ⟨_, e_q427⟩
  | 28, _ => exact ⟨_, e_q428⟩
  | 29, _ => exact ⟨_, e_q429⟩
  | 30, _ => exact ⟨_, e_q430⟩
  | 31, _ => exact ⟨_, e_q431⟩
  | 32, _ => exact ⟨_, e_q432⟩
  | 33, _ => exact ⟨_, e_q433⟩
  | 34, _ => exact ⟨_, e_q434⟩
  | 35, _ => exact ⟨_, e_q435⟩
  | 36, _ => exact ⟨_, e_q436⟩
  | 37, _ => exact ⟨_, e_q437⟩
  | 38, _ => exact ⟨_, e_q438⟩
  | 39, _ => exact ⟨_, e_q439⟩
  | i + 40, h => omega
set_option maxRecDepth 20000 in
theorem e_chk_11 : ∀ i, i < 40 → ∃ w, c_blk (e_lm (440 + i)) (e_lbl (440 + i)) w = true := by
  intro i h
  match i, h with
  | 0, _ => exact ⟨_, e_q440⟩
  | 1, _ => exact ⟨_, e_q441⟩
  | 2, _ => exact ⟨_, e_q442⟩
  | 3, _ => exact ⟨_, e_q443⟩
  | 4, _ => exact ⟨_, e_q444⟩
  | 5, _ => exact ⟨_, e_q445⟩
  | 6, _ => exact ⟨_, e_q446⟩
  | 7, _ => exact ⟨_, e_q447⟩
  | 8, _ => exact ⟨_, e_q448⟩
  | 9, _ => exact ⟨_, e_q449⟩
  | 10, _ => exact ⟨_, e_q450⟩
  | 11, _ => exact ⟨_, e_q451⟩
  | 12, _ => exact ⟨_, e_q452⟩
  | 13, _ => exact ⟨_, e_q453⟩
  | 14, _ => exact ⟨_, e_q454⟩
  | 15, _ => exact ⟨_, e_q455⟩
  | 16, _ => exact ⟨_, e_q456⟩
  | 17, _ => exact ⟨_, e_q457⟩
  | 18, _ => exact ⟨_, e_q458⟩
  | 19, _ => exact ⟨_, e_q459⟩
  | 20, _ => exact ⟨_, e_q460⟩
  | 21, _ => exact ⟨_, e_q461⟩
  | 22, _ => exact ⟨_, e_q462⟩
  | 23, _ => exact ⟨_, e_q463⟩
  | 24, _ => exact ⟨_, e_q464⟩
  | 25, _ => exact ⟨_, e_q465⟩
  | 26, _ => exact ⟨_, e_q466⟩
  | 27, _ => exact ⟨_, e_q467⟩
  | 28, _ => exact ⟨_, e_q468⟩
  | 29, _ => exact ⟨_, e_q469⟩
  | 30, _ => exact ⟨_, e_q470⟩
  | 31, _ => exact ⟨_, e_q471⟩
  | 32, _ => exact ⟨_, e_q472⟩
  | 33, _ => exact ⟨_, e_q473⟩
  | 34, _ => exact ⟨_, e_q474⟩
  | 35, _ => exact ⟨_, e_q475⟩
  | 36, _ => exact ⟨_, e_q476⟩
  | 37, _ => exact ⟨_, e_q477⟩
  | 38, _ => exact ⟨_, e_q478⟩
  | 39, _ => exact ⟨_, e_q479⟩
  | i + 40, h => omega
set_option maxRecDepth 20000 in
theorem e_chk_12 : ∀ i, i < 40 → ∃ w, c_blk (e_lm (480 + i)) (e_lbl (480 + i)) w = true := by
  intro i h
  match i, h with
  | 0, _ => exact ⟨_, e_q480⟩
  | 1, _ => exact ⟨_, e_q481⟩
  | 2, _ => exact ⟨_, e_q482⟩
  | 3, _ => exact ⟨_, e_q483⟩
  | 4, _ => exact ⟨_, e_q484⟩
  | 5, _ => exact ⟨_, e_q485⟩
  | 6, _ => exact ⟨_, e_q486⟩
  | 7, _ => exact ⟨_, e_q487⟩
  | 8, _ => exact ⟨_, e_q488⟩
  | 9, _ => exact ⟨_, e_q489⟩
  | 10, _ => exact ⟨_, e_q490⟩
  | 11, _ => exact ⟨_, e_q491⟩
  | 12, _ => exact ⟨_, e_q492⟩
  | 13, _ => exact ⟨_, e_q493⟩
  | 14, _ => exact ⟨_, e_q494⟩
  | 15, _ => exact ⟨_, e_q495⟩
  | 16, _ => exact ⟨_, e_q496⟩
  | 17, _ => exact ⟨_, e_q497⟩
  | 18, _ => exact ⟨_, e_q498⟩
  | 19, _ => exact ⟨_, e_q499⟩
  | 20, _ => exact ⟨_, e_q500⟩
  | 21, _ => exact ⟨_, e_q501⟩
  | 22, _ => exact ⟨_, e_q502⟩
  | 23, _ => exact ⟨_, e_q503⟩
  | 24, _ => exact ⟨_, e_q504⟩
  | 25, _ => exact ⟨_, e_q505⟩
  | 26, _ => exact ⟨_, e_q506⟩
  | 27, _ => exact ⟨_, e_q507⟩
  | 28, _ => exact ⟨_, e_q508⟩
  | 29, _ => exact ⟨_, e_q509⟩
  | 30, _ => exact ⟨_, e_q510⟩
  | 31, _ => exact ⟨_, e_q511⟩
  | 32, _ => exact ⟨_, e_q512⟩
  | 33, _ => exact ⟨_, e_q513⟩
  | 34, _ => exact ⟨_, e_q514⟩
  | 35, _ => exact ⟨_, e_q515⟩
  | 36, _ => exact ⟨_, e_q516⟩
  | 37, _ => exact ⟨_, e_q517⟩
  | 38, _ => exact ⟨_, e_q518⟩
  | 39, _ => exact ⟨_, e_q519⟩
  | i + 40, h => omega
set_option maxRecDepth 20000 in
theorem e_chk_13 : ∀ i, i < 40 → ∃ w, c_blk (e_lm (520 + i)) (e_lbl (520 + i)) w = true := by
  intro i h
  match i, h with
  | 0, _ => exact ⟨_, e_q520⟩
  | 1, _ => exact ⟨_, e_q521⟩
  | 2, _ => exact ⟨_, e_q522⟩
  | 3, _ => exact ⟨_, e_q523⟩
  | 4, _ => exact ⟨_, e_q524⟩
  | 5, _ => exact ⟨_, e_q525⟩
  | 6, _ => exact ⟨_, e_q526⟩
  | 7, _ => exact ⟨_, e_q527⟩
  | 8, _ => exact ⟨_, e_q528⟩
  | 9, _ => exact ⟨_, e_q529⟩
  | 10, _ => exact ⟨_, e_q530⟩
  | 11, _ => exact ⟨_, e_q531⟩
  | 12, _ => exact ⟨_, e_q532⟩
  | 13, _ => exact ⟨_, e_q533⟩
  | 14, _ => exact ⟨_, e_q534⟩
  | 15, _ => exact ⟨_, e_q535⟩
  | 16, _ => exact ⟨_, e_q536⟩
  | 17, _ => exact ⟨_, e_q537⟩
  | 18, _ => exact ⟨_, e_q538⟩
  | 19, _ => exact ⟨_, e_q539⟩
  | 20, _ => exact ⟨_, e_q540⟩
  | 21, _ => exact ⟨_, e_q541⟩
  | 22, _ => exact ⟨_, e_q542⟩
  | 23, _ => exact ⟨_, e_q543⟩
  | 24, _ => exact ⟨_, e_q544⟩
  | 25, _ => exact ⟨_, e_q545⟩
  | 26, _ => exact ⟨_, e_q546⟩
  | 27, _ => exact ⟨_, e_q547⟩
  | 28, _ => exact ⟨_, e_q548⟩
  | 29, _ => exact ⟨_, e_q549⟩
  | 30, _ => exact ⟨_, e_q550⟩
  | 31, _ => exact ⟨_, e_q551⟩
  | 32, _ => exact ⟨_, e_q552⟩
  | 33, _ => exact ⟨_, e_q553⟩
  | 34, _ => exact ⟨_, e_q554⟩
  | 35, _ => exact ⟨_, e_q555⟩
  | 36, _ => exact ⟨_, e_q556⟩
  | 37, _ => exact ⟨_, e_q557⟩
  | 38, _ => exact ⟨_, e_q558⟩
  | 39, _ => exact ⟨_, e_q559⟩
  | i + 40, h => omega
set_option maxRecDepth 20000 in
theorem e_chk_14 : ∀ i, i < 2 → ∃ w, c_blk (e_lm (560 + i)) (e_lbl (560 + i)) w = true := by
  intro i h
  match i, h with
  | 0, _ => exact ⟨_, e_q560⟩
  | 1, _ => exact ⟨_, e_q561⟩
  | i + 2, h => omega
theorem e_chk : ∀ t, t < e_labs.length → ∃ w, c_blk (e_lm t) (e_lbl t) w = true := by
  intro t ht
  rw [e_labs_len] at ht
  by_cases h0 : t < 40
  · obtain ⟨w, hw⟩ := e_chk_0 (t - 0) (by omega)
    rw [show 0 + (t - 0) = t by omega] at hw
    exact ⟨w, hw⟩
  by_cases h1 : t < 80
  · obtain ⟨w, hw⟩ := e_chk_1 (t - 40) (by omega)
    rw [show 40 + (t - 40) = t by omega] at hw
    exact ⟨w, hw⟩
  by_cases h2 : t < 120
  · obtain ⟨w, hw⟩ := e_chk_2 (t - 80) (by omega)
    rw [show 80 + (t - 80) = t by omega] at hw
    exact ⟨w, hw⟩
  by_cases h3 : t < 160
  · obtain ⟨w, hw⟩ := e_chk_3 (t - 120) (by omega)
    rw [show 120 + (t - 120) = t by omega] at hw
    exact ⟨w, hw⟩
  by_cases h4 : t < 200
  · obtain ⟨w, hw⟩ := e_chk_4 (t - 160) (by omega)
    rw [show 160 + (t - 160) = t by omega] at hw
    exact ⟨w, hw⟩
  by_cases h5 : t < 240
  · obtain ⟨w, hw⟩ := e_chk_5 (t - 200) (by omega)
    rw [show 200 + (t - 200) = t by omega] at hw
    exact ⟨w, hw⟩
  by_cases h6 : t < 280
  · obtain ⟨w, hw⟩ := e_chk_6 (t - 240) (by omega)
    rw [show 240 + (t - 240) = t by omega] at hw
    exact ⟨w, hw⟩
  by_cases h7 : t < 320
  · obtain ⟨w, hw⟩ := e_chk_7 (t - 280) (by omega)
    rw [show 280 + (t - 280) = t by omega] at hw
    exact ⟨w, hw⟩
  by_cases h8 : t < 360
  · obtain ⟨w, hw⟩ := e_chk_8 (t - 320) (by omega)
    rw [show 320 + (t - 320) = t by omega] at hw
    exact ⟨w, hw⟩
  by_cases h9 : t < 400
  · obtain ⟨w, hw⟩ := e_chk_9 (t - 360) (by omega)
    rw [show 360 + (t - 360) = t by omega] at hw
    exact ⟨w, hw⟩
  by_cases h10 : t < 440
  · obtain ⟨w, hw⟩ := e_chk_10 (t - 400) (by omega)
    rw [show 400 + (t - 400) = t by omega] at hw
    exact ⟨w, hw⟩
  by_cases h11 : t < 480
  · obtain ⟨w, hw⟩ := e_chk_11 (t - 440) (by omega)
    rw [show 440 + (t - 440) = t by omega] at hw
    exact ⟨w, hw⟩
  by_cases h12 : t < 520
  · obtain ⟨w, hw⟩ := e_chk_12 (t - 480) (by omega)
    rw [show 480 + (t - 480) = t by omega] at hw
    exact ⟨w, hw⟩
  by_cases h13 : t < 560
  · obtain ⟨w, hw⟩ := e_chk_13 (t - 520) (by omega)
    rw [show 520 + (t - 520) = t by omega] at hw
    exact ⟨w, hw⟩
  by_cases h14 : t < 562
  · obtain ⟨w, hw⟩ := e_chk_14 (t - 560) (by omega)
    rw [show 560 + (t - 560) = t by omega] at hw
    exact ⟨w, hw⟩
  omega
