/-! ===== entries of the pools and methods, one by one ===== -/
theorem mo0 : mo 0 = 0 := by decide +kernel
theorem ml0 : ml 0 = 2 := by decide +kernel
theorem mr0 : mr 0 = none := by decide +kernel
theorem mj0 : 0 < 227 ∧ ms_ 0 = false ∧ mn 0 = 1 ∧ mo 0 = 0 := by decide +kernel
theorem mo1 : mo 1 = 0 := by decide +kernel
theorem ml1 : ml 1 = 2 := by decide +kernel
theorem mr1 : mr 1 = (some .boolean) := by decide +kernel
theorem mj1 : 1 < 227 ∧ ms_ 1 = false ∧ mn 1 = 1 ∧ mo 1 = 0 := by decide +kernel
theorem mo2 : mo 2 = 0 := by decide +kernel
theorem ml2 : ml 2 = 7 := by decide +kernel
theorem mr2 : mr 2 = (some .int) := by decide +kernel
theorem mj2 : 2 < 227 ∧ ms_ 2 = false ∧ mn 2 = 4 ∧ mo 2 = 0 := by decide +kernel
theorem mo3 : mo 3 = 0 := by decide +kernel
theorem ml3 : ml 3 = 4 := by decide +kernel
theorem mr3 : mr 3 = none := by decide +kernel
theorem mj3 : 3 < 227 ∧ ms_ 3 = false ∧ mn 3 = 1 ∧ mo 3 = 0 := by decide +kernel
theorem mo4 : mo 4 = 0 := by decide +kernel
theorem ml4 : ml 4 = 4 := by decide +kernel
theorem mr4 : mr 4 = (some .int) := by decide +kernel
theorem mj4 : 4 < 227 ∧ ms_ 4 = false ∧ mn 4 = 1 ∧ mo 4 = 0 := by decide +kernel
theorem mo5 : mo 5 = 0 := by decide +kernel
theorem ml5 : ml 5 = 1 := by decide +kernel
theorem mr5 : mr 5 = (some .int) := by decide +kernel
theorem mj5 : 5 < 227 ∧ ms_ 5 = false ∧ mn 5 = 0 ∧ mo 5 = 0 := by decide +kernel
theorem mo6 : mo 6 = 0 := by decide +kernel
theorem ml6 : ml 6 = 3 := by decide +kernel
theorem mr6 : mr 6 = (some .int) := by decide +kernel
theorem mj6 : 6 < 227 ∧ ms_ 6 = false ∧ mn 6 = 0 ∧ mo 6 = 0 := by decide +kernel
theorem mo7 : mo 7 = 0 := by decide +kernel
theorem ml7 : ml 7 = 3 := by decide +kernel
theorem mr7 : mr 7 = (some .int) := by decide +kernel
theorem mj7 : 7 < 227 ∧ ms_ 7 = false ∧ mn 7 = 0 ∧ mo 7 = 0 := by decide +kernel
theorem mo8 : mo 8 = 0 := by decide +kernel
theorem ml8 : ml 8 = 2 := by decide +kernel
theorem mr8 : mr 8 = (some .boolean) := by decide +kernel
theorem mj8 : 8 < 227 ∧ ms_ 8 = false ∧ mn 8 = 1 ∧ mo 8 = 0 := by decide +kernel
theorem mo9 : mo 9 = 0 := by decide +kernel
theorem ml9 : ml 9 = 2 := by decide +kernel
theorem mr9 : mr 9 = none := by decide +kernel
theorem mj9 : 9 < 227 ∧ ms_ 9 = false ∧ mn 9 = 1 ∧ mo 9 = 0 := by decide +kernel
theorem mo10 : mo 10 = 0 := by decide +kernel
theorem ml10 : ml 10 = 3 := by decide +kernel
theorem mr10 : mr 10 = none := by decide +kernel
theorem mj10 : 10 < 227 ∧ ms_ 10 = false ∧ mn 10 = 2 ∧ mo 10 = 0 := by decide +kernel
theorem mo11 : mo 11 = 0 := by decide +kernel
theorem ml11 : ml 11 = 3 := by decide +kernel
theorem mr11 : mr 11 = none := by decide +kernel
theorem mj11 : 11 < 227 ∧ ms_ 11 = false ∧ mn 11 = 1 ∧ mo 11 = 0 := by decide +kernel
theorem mo12 : mo 12 = 0 := by decide +kernel
theorem ml12 : ml 12 = 9 := by decide +kernel
theorem mr12 : mr 12 = (some .int) := by decide +kernel
theorem mj12 : 12 < 227 ∧ ms_ 12 = false ∧ mn 12 = 1 ∧ mo 12 = 0 := by decide +kernel
theorem mo13 : mo 13 = 0 := by decide +kernel
theorem ml13 : ml 13 = 5 := by decide +kernel
theorem mr13 : mr 13 = none := by decide +kernel
theorem mj13 : 13 < 227 ∧ ms_ 13 = false ∧ mn 13 = 2 ∧ mo 13 = 0 := by decide +kernel
theorem mo14 : mo 14 = 0 := by decide +kernel
theorem ml14 : ml 14 = 4 := by decide +kernel
theorem mr14 : mr 14 = (some .int) := by decide +kernel
theorem mj14 : 14 < 227 ∧ ms_ 14 = false ∧ mn 14 = 1 ∧ mo 14 = 0 := by decide +kernel
theorem mo15 : mo 15 = 0 := by decide +kernel
theorem ml15 : ml 15 = 8 := by decide +kernel
theorem mr15 : mr 15 = (some .int) := by decide +kernel
theorem mj15 : 15 < 227 ∧ ms_ 15 = false ∧ mn 15 = 2 ∧ mo 15 = 0 := by decide +kernel
theorem mo16 : mo 16 = 0 := by decide +kernel
theorem ml16 : ml 16 = 2 := by decide +kernel
theorem mr16 : mr 16 = (some .int) := by decide +kernel
theorem mj16 : 16 < 227 ∧ ms_ 16 = true ∧ mn 16 = 2 := by decide +kernel
theorem mo17 : mo 17 = 0 := by decide +kernel
theorem ml17 : ml 17 = 3 := by decide +kernel
theorem mr17 : mr 17 = none := by decide +kernel
theorem mj17 : 17 < 227 ∧ ms_ 17 = false ∧ mn 17 = 1 ∧ mo 17 = 0 := by decide +kernel
theorem mo18 : mo 18 = 0 := by decide +kernel
theorem ml18 : ml 18 = 4 := by decide +kernel
theorem mr18 : mr 18 = none := by decide +kernel
theorem mj18 : 18 < 227 ∧ ms_ 18 = false ∧ mn 18 = 2 ∧ mo 18 = 0 := by decide +kernel
theorem mo19 : mo 19 = 0 := by decide +kernel
theorem ml19 : ml 19 = 4 := by decide +kernel
theorem mr19 : mr 19 = none := by decide +kernel
theorem mj19 : 19 < 227 ∧ ms_ 19 = false ∧ mn 19 = 1 ∧ mo 19 = 0 := by decide +kernel
theorem mo20 : mo 20 = 0 := by decide +kernel
theorem ml20 : ml 20 = 8 := by decide +kernel
theorem mr20 : mr 20 = none := by decide +kernel
theorem mj20 : 20 < 227 ∧ ms_ 20 = false ∧ mn 20 = 2 ∧ mo 20 = 0 := by decide +kernel
theorem mo21 : mo 21 = 0 := by decide +kernel
theorem ml21 : ml 21 = 4 := by decide +kernel
theorem mr21 : mr 21 = (some .int) := by decide +kernel
theorem mj21 : 21 < 227 ∧ ms_ 21 = false ∧ mn 21 = 3 ∧ mo 21 = 0 := by decide +kernel
theorem mo22 : mo 22 = 0 := by decide +kernel
theorem ml22 : ml 22 = 3 := by decide +kernel
theorem mr22 : mr 22 = (some .int) := by decide +kernel
theorem mj22 : 22 < 227 ∧ ms_ 22 = false ∧ mn 22 = 0 ∧ mo 22 = 0 := by decide +kernel
theorem mo23 : mo 23 = 0 := by decide +kernel
theorem ml23 : ml 23 = 5 := by decide +kernel
theorem mr23 : mr 23 = (some .int) := by decide +kernel
theorem mj23 : 23 < 227 ∧ ms_ 23 = false ∧ mn 23 = 1 ∧ mo 23 = 0 := by decide +kernel
theorem mo24 : mo 24 = 0 := by decide +kernel
theorem ml24 : ml 24 = 4 := by decide +kernel
theorem mr24 : mr 24 = (some .int) := by decide +kernel
theorem mj24 : 24 < 227 ∧ ms_ 24 = true ∧ mn 24 = 1 := by decide +kernel
theorem mo25 : mo 25 = 0 := by decide +kernel
theorem ml25 : ml 25 = 3 := by decide +kernel
theorem mr25 : mr 25 = (some .int) := by decide +kernel
theorem mj25 : 25 < 227 ∧ ms_ 25 = false ∧ mn 25 = 2 ∧ mo 25 = 0 := by decide +kernel
theorem mo26 : mo 26 = 0 := by decide +kernel
theorem ml26 : ml 26 = 3 := by decide +kernel
theorem mr26 : mr 26 = (some .int) := by decide +kernel
theorem mj26 : 26 < 227 ∧ ms_ 26 = false ∧ mn 26 = 2 ∧ mo 26 = 0 := by decide +kernel
theorem mo27 : mo 27 = 0 := by decide +kernel
theorem ml27 : ml 27 = 2 := by decide +kernel
theorem mr27 : mr 27 = (some .int) := by decide +kernel
theorem mj27 : 27 < 227 ∧ ms_ 27 = false ∧ mn 27 = 1 ∧ mo 27 = 0 := by decide +kernel
theorem mo28 : mo 28 = 0 := by decide +kernel
theorem ml28 : ml 28 = 4 := by decide +kernel
theorem mr28 : mr 28 = (some .int) := by decide +kernel
theorem mj28 : 28 < 227 ∧ ms_ 28 = false ∧ mn 28 = 1 ∧ mo 28 = 0 := by decide +kernel
theorem mo29 : mo 29 = 0 := by decide +kernel
theorem ml29 : ml 29 = 3 := by decide +kernel
theorem mr29 : mr 29 = (some .int) := by decide +kernel
theorem mj29 : 29 < 227 ∧ ms_ 29 = false ∧ mn 29 = 0 ∧ mo 29 = 0 := by decide +kernel
theorem mo30 : mo 30 = 1 := by decide +kernel
theorem ml30 : ml 30 = 2 := by decide +kernel
theorem mr30 : mr 30 = (some .boolean) := by decide +kernel
theorem mj30 : 30 < 227 ∧ ms_ 30 = false ∧ mn 30 = 1 ∧ mo 30 = 1 := by decide +kernel
theorem mo31 : mo 31 = 1 := by decide +kernel
theorem ml31 : ml 31 = 3 := by decide +kernel
theorem mr31 : mr 31 = none := by decide +kernel
theorem mj31 : 31 < 227 ∧ ms_ 31 = false ∧ mn 31 = 1 ∧ mo 31 = 1 := by decide +kernel
theorem mo32 : mo 32 = 1 := by decide +kernel
theorem ml32 : ml 32 = 10 := by decide +kernel
theorem mr32 : mr 32 = (some .int) := by decide +kernel
theorem mj32 : 32 < 227 ∧ ms_ 32 = false ∧ mn 32 = 5 ∧ mo 32 = 1 := by decide +kernel
theorem mo33 : mo 33 = 1 := by decide +kernel
theorem ml33 : ml 33 = 3 := by decide +kernel
theorem mr33 : mr 33 = (some .int) := by decide +kernel
theorem mj33 : 33 < 227 ∧ ms_ 33 = true ∧ mn 33 = 3 := by decide +kernel
theorem mo34 : mo 34 = 2 := by decide +kernel
theorem ml34 : ml 34 = 3 := by decide +kernel
theorem mr34 : mr 34 = (some .int) := by decide +kernel
theorem mj34 : 34 < 227 ∧ ms_ 34 = false ∧ mn 34 = 2 ∧ mo 34 = 2 := by decide +kernel
theorem mo35 : mo 35 = 2 := by decide +kernel
theorem ml35 : ml 35 = 1 := by decide +kernel
theorem mr35 : mr 35 = (some (.object "java/lang/String")) := by decide +kernel
theorem mj35 : 35 < 227 ∧ ms_ 35 = true ∧ mn 35 = 1 := by decide +kernel
theorem mo36 : mo 36 = 2 := by decide +kernel
theorem ml36 : ml 36 = 1 := by decide +kernel
theorem mr36 : mr 36 = (some (.object "java/lang/String")) := by decide +kernel
theorem mj36 : 36 < 227 ∧ ms_ 36 = true ∧ mn 36 = 1 := by decide +kernel
theorem mo37 : mo 37 = 2 := by decide +kernel
theorem ml37 : ml 37 = 1 := by decide +kernel
theorem mr37 : mr 37 = (some .char) := by decide +kernel
theorem mj37 : 37 < 227 ∧ ms_ 37 = false ∧ mn 37 = 0 ∧ mo 37 = 2 := by decide +kernel
theorem mo38 : mo 38 = 2 := by decide +kernel
theorem ml38 : ml 38 = 6 := by decide +kernel
theorem mr38 : mr 38 = none := by decide +kernel
theorem mj38 : 38 < 227 ∧ ms_ 38 = false ∧ mn 38 = 2 ∧ mo 38 = 2 := by decide +kernel
theorem mo39 : mo 39 = 2 := by decide +kernel
theorem ml39 : ml 39 = 4 := by decide +kernel
theorem mr39 : mr 39 = none := by decide +kernel
theorem mj39 : 39 < 227 ∧ ms_ 39 = false ∧ mn 39 = 1 ∧ mo 39 = 2 := by decide +kernel
theorem mo40 : mo 40 = 2 := by decide +kernel
theorem ml40 : ml 40 = 1 := by decide +kernel
theorem mr40 : mr 40 = none := by decide +kernel
theorem mj40 : 40 < 227 ∧ ms_ 40 = false ∧ mn 40 = 0 ∧ mo 40 = 2 := by decide +kernel
theorem mo41 : mo 41 = 2 := by decide +kernel
theorem ml41 : ml 41 = 3 := by decide +kernel
theorem mr41 : mr 41 = none := by decide +kernel
theorem mj41 : 41 < 227 ∧ ms_ 41 = false ∧ mn 41 = 0 ∧ mo 41 = 2 := by decide +kernel
theorem mo42 : mo 42 = 2 := by decide +kernel
theorem ml42 : ml 42 = 1 := by decide +kernel
theorem mr42 : mr 42 = (some .boolean) := by decide +kernel
theorem mj42 : 42 < 227 ∧ ms_ 42 = true ∧ mn 42 = 1 := by decide +kernel
theorem mo43 : mo 43 = 3 := by decide +kernel
theorem ml43 : ml 43 = 2 := by decide +kernel
theorem mr43 : mr 43 = (some .boolean) := by decide +kernel
theorem mj43 : 43 < 227 ∧ ms_ 43 = false ∧ mn 43 = 1 ∧ mo 43 = 3 := by decide +kernel
theorem mo44 : mo 44 = 3 := by decide +kernel
theorem ml44 : ml 44 = 2 := by decide +kernel
theorem mr44 : mr 44 = (some .boolean) := by decide +kernel
theorem mj44 : 44 < 227 ∧ ms_ 44 = false ∧ mn 44 = 1 ∧ mo 44 = 3 := by decide +kernel
theorem mo45 : mo 45 = 3 := by decide +kernel
theorem ml45 : ml 45 = 3 := by decide +kernel
theorem mr45 : mr 45 = none := by decide +kernel
theorem mj45 : 45 < 227 ∧ ms_ 45 = false ∧ mn 45 = 1 ∧ mo 45 = 3 := by decide +kernel
theorem mo46 : mo 46 = 4 := by decide +kernel
theorem ml46 : ml 46 = 1 := by decide +kernel
theorem mr46 : mr 46 = (some .boolean) := by decide +kernel
theorem mj46 : 46 < 227 ∧ ms_ 46 = false ∧ mn 46 = 0 ∧ mo 46 = 4 := by decide +kernel
theorem mo47 : mo 47 = 4 := by decide +kernel
theorem ml47 : ml 47 = 4 := by decide +kernel
theorem mr47 : mr 47 = none := by decide +kernel
theorem mj47 : 47 < 227 ∧ ms_ 47 = false ∧ mn 47 = 2 ∧ mo 47 = 4 := by decide +kernel
theorem mo48 : mo 48 = 4 := by decide +kernel
theorem ml48 : ml 48 = 3 := by decide +kernel
theorem mr48 : mr 48 = (some .boolean) := by decide +kernel
theorem mj48 : 48 < 227 ∧ ms_ 48 = false ∧ mn 48 = 2 ∧ mo 48 = 4 := by decide +kernel
theorem mo49 : mo 49 = 4 := by decide +kernel
theorem ml49 : ml 49 = 3 := by decide +kernel
theorem mr49 : mr 49 = none := by decide +kernel
theorem mj49 : 49 < 227 ∧ ms_ 49 = false ∧ mn 49 = 2 ∧ mo 49 = 4 := by decide +kernel
theorem mo50 : mo 50 = 5 := by decide +kernel
theorem ml50 : ml 50 = 2 := by decide +kernel
theorem mr50 : mr 50 = none := by decide +kernel
theorem mj50 : 50 < 227 ∧ ms_ 50 = false ∧ mn 50 = 1 ∧ mo 50 = 5 := by decide +kernel
theorem mo51 : mo 51 = 5 := by decide +kernel
theorem ml51 : ml 51 = 1 := by decide +kernel
theorem mr51 : mr 51 = (some .int) := by decide +kernel
theorem mj51 : 51 < 227 ∧ ms_ 51 = false ∧ mn 51 = 0 ∧ mo 51 = 5 := by decide +kernel
theorem mo52 : mo 52 = 5 := by decide +kernel
theorem ml52 : ml 52 = 4 := by decide +kernel
theorem mr52 : mr 52 = (some .int) := by decide +kernel
theorem mj52 : 52 < 227 ∧ ms_ 52 = false ∧ mn 52 = 1 ∧ mo 52 = 5 := by decide +kernel
theorem mo53 : mo 53 = 5 := by decide +kernel
theorem ml53 : ml 53 = 6 := by decide +kernel
theorem mr53 : mr 53 = (some .int) := by decide +kernel
theorem mj53 : 53 < 227 ∧ ms_ 53 = true ∧ mn 53 = 2 := by decide +kernel
theorem mo54 : mo 54 = 6 := by decide +kernel
theorem ml54 : ml 54 = 6 := by decide +kernel
theorem mr54 : mr 54 = (some .int) := by decide +kernel
theorem mj54 : 54 < 227 ∧ ms_ 54 = false ∧ mn 54 = 5 ∧ mo 54 = 6 := by decide +kernel
theorem mo55 : mo 55 = 6 := by decide +kernel
theorem ml55 : ml 55 = 9 := by decide +kernel
theorem mr55 : mr 55 = (some .int) := by decide +kernel
theorem mj55 : 55 < 227 ∧ ms_ 55 = false ∧ mn 55 = 4 ∧ mo 55 = 6 := by decide +kernel
theorem mo56 : mo 56 = 6 := by decide +kernel
theorem ml56 : ml 56 = 3 := by decide +kernel
theorem mr56 : mr 56 = (some .int) := by decide +kernel
theorem mj56 : 56 < 227 ∧ ms_ 56 = false ∧ mn 56 = 1 ∧ mo 56 = 6 := by decide +kernel
theorem mo57 : mo 57 = 6 := by decide +kernel
theorem ml57 : ml 57 = 4 := by decide +kernel
theorem mr57 : mr 57 = (some .int) := by decide +kernel
theorem mj57 : 57 < 227 ∧ ms_ 57 = true ∧ mn 57 = 2 := by decide +kernel
theorem mo58 : mo 58 = 7 := by decide +kernel
theorem ml58 : ml 58 = 6 := by decide +kernel
theorem mr58 : mr 58 = (some .int) := by decide +kernel
theorem mj58 : 58 < 227 ∧ ms_ 58 = false ∧ mn 58 = 4 ∧ mo 58 = 7 := by decide +kernel
theorem mo59 : mo 59 = 7 := by decide +kernel
theorem ml59 : ml 59 = 3 := by decide +kernel
theorem mr59 : mr 59 = (some .int) := by decide +kernel
theorem mj59 : 59 < 227 ∧ ms_ 59 = false ∧ mn 59 = 1 ∧ mo 59 = 7 := by decide +kernel
theorem mo60 : mo 60 = 7 := by decide +kernel
theorem ml60 : ml 60 = 3 := by decide +kernel
theorem mr60 : mr 60 = (some .int) := by decide +kernel
theorem mj60 : 60 < 227 ∧ ms_ 60 = false ∧ mn 60 = 2 ∧ mo 60 = 7 := by decide +kernel
theorem mo61 : mo 61 = 7 := by decide +kernel
theorem ml61 : ml 61 = 3 := by decide +kernel
theorem mr61 : mr 61 = (some .int) := by decide +kernel
theorem mj61 : 61 < 227 ∧ ms_ 61 = false ∧ mn 61 = 2 ∧ mo 61 = 7 := by decide +kernel
theorem mo62 : mo 62 = 7 := by decide +kernel
theorem ml62 : ml 62 = 4 := by decide +kernel
theorem mr62 : mr 62 = (some .int) := by decide +kernel
theorem mj62 : 62 < 227 ∧ ms_ 62 = false ∧ mn 62 = 2 ∧ mo 62 = 7 := by decide +kernel
theorem mo63 : mo 63 = 7 := by decide +kernel
theorem ml63 : ml 63 = 2 := by decide +kernel
theorem mr63 : mr 63 = (some .int) := by decide +kernel
theorem mj63 : 63 < 227 ∧ ms_ 63 = false ∧ mn 63 = 1 ∧ mo 63 = 7 := by decide +kernel
theorem mo64 : mo 64 = 7 := by decide +kernel
theorem ml64 : ml 64 = 4 := by decide +kernel
theorem mr64 : mr 64 = (some .int) := by decide +kernel
theorem mj64 : 64 < 227 ∧ ms_ 64 = false ∧ mn 64 = 2 ∧ mo 64 = 7 := by decide +kernel
theorem mo65 : mo 65 = 7 := by decide +kernel
theorem ml65 : ml 65 = 3 := by decide +kernel
theorem mr65 : mr 65 = (some .int) := by decide +kernel
theorem mj65 : 65 < 227 ∧ ms_ 65 = false ∧ mn 65 = 2 ∧ mo 65 = 7 := by decide +kernel
theorem mo66 : mo 66 = 7 := by decide +kernel
theorem ml66 : ml 66 = 4 := by decide +kernel
theorem mr66 : mr 66 = (some .int) := by decide +kernel
theorem mj66 : 66 < 227 ∧ ms_ 66 = false ∧ mn 66 = 2 ∧ mo 66 = 7 := by decide +kernel
theorem mo67 : mo 67 = 7 := by decide +kernel
theorem ml67 : ml 67 = 5 := by decide +kernel
theorem mr67 : mr 67 = (some .int) := by decide +kernel
theorem mj67 : 67 < 227 ∧ ms_ 67 = false ∧ mn 67 = 2 ∧ mo 67 = 7 := by decide +kernel
theorem mo68 : mo 68 = 7 := by decide +kernel
theorem ml68 : ml 68 = 3 := by decide +kernel
theorem mr68 : mr 68 = (some .int) := by decide +kernel
theorem mj68 : 68 < 227 ∧ ms_ 68 = false ∧ mn 68 = 1 ∧ mo 68 = 7 := by decide +kernel
theorem mo69 : mo 69 = 7 := by decide +kernel
theorem ml69 : ml 69 = 3 := by decide +kernel
theorem mr69 : mr 69 = (some .int) := by decide +kernel
theorem mj69 : 69 < 227 ∧ ms_ 69 = false ∧ mn 69 = 1 ∧ mo 69 = 7 := by decide +kernel
theorem mo70 : mo 70 = 7 := by decide +kernel
theorem ml70 : ml 70 = 2 := by decide +kernel
theorem mr70 : mr 70 = (some .int) := by decide +kernel
theorem mj70 : 70 < 227 ∧ ms_ 70 = false ∧ mn 70 = 1 ∧ mo 70 = 7 := by decide +kernel
theorem mo71 : mo 71 = 7 := by decide +kernel
theorem ml71 : ml 71 = 4 := by decide +kernel
theorem mr71 : mr 71 = (some .int) := by decide +kernel
theorem mj71 : 71 < 227 ∧ ms_ 71 = false ∧ mn 71 = 1 ∧ mo 71 = 7 := by decide +kernel
theorem mo72 : mo 72 = 7 := by decide +kernel
theorem ml72 : ml 72 = 3 := by decide +kernel
theorem mr72 : mr 72 = (some .int) := by decide +kernel
theorem mj72 : 72 < 227 ∧ ms_ 72 = false ∧ mn 72 = 1 ∧ mo 72 = 7 := by decide +kernel
theorem mo73 : mo 73 = 7 := by decide +kernel
theorem ml73 : ml 73 = 6 := by decide +kernel
theorem mr73 : mr 73 = (some .int) := by decide +kernel
theorem mj73 : 73 < 227 ∧ ms_ 73 = false ∧ mn 73 = 3 ∧ mo 73 = 7 := by decide +kernel
theorem mo74 : mo 74 = 7 := by decide +kernel
theorem ml74 : ml 74 = 3 := by decide +kernel
theorem mr74 : mr 74 = (some .int) := by decide +kernel
theorem mj74 : 74 < 227 ∧ ms_ 74 = false ∧ mn 74 = 2 ∧ mo 74 = 7 := by decide +kernel
theorem mo75 : mo 75 = 7 := by decide +kernel
theorem ml75 : ml 75 = 2 := by decide +kernel
theorem mr75 : mr 75 = (some .int) := by decide +kernel
theorem mj75 : 75 < 227 ∧ ms_ 75 = false ∧ mn 75 = 1 ∧ mo 75 = 7 := by decide +kernel
theorem mo76 : mo 76 = 7 := by decide +kernel
theorem ml76 : ml 76 = 1 := by decide +kernel
theorem mr76 : mr 76 = (some .int) := by decide +kernel
theorem mj76 : 76 < 227 ∧ ms_ 76 = false ∧ mn 76 = 0 ∧ mo 76 = 7 := by decide +kernel
theorem mo77 : mo 77 = 7 := by decide +kernel
theorem ml77 : ml 77 = 3 := by decide +kernel
theorem mr77 : mr 77 = (some .int) := by decide +kernel
theorem mj77 : 77 < 227 ∧ ms_ 77 = false ∧ mn 77 = 2 ∧ mo 77 = 7 := by decide +kernel
theorem mo78 : mo 78 = 7 := by decide +kernel
theorem ml78 : ml 78 = 4 := by decide +kernel
theorem mr78 : mr 78 = (some .int) := by decide +kernel
theorem mj78 : 78 < 227 ∧ ms_ 78 = false ∧ mn 78 = 3 ∧ mo 78 = 7 := by decide +kernel
theorem mo79 : mo 79 = 7 := by decide +kernel
theorem ml79 : ml 79 = 7 := by decide +kernel
theorem mr79 : mr 79 = (some .int) := by decide +kernel
theorem mj79 : 79 < 227 ∧ ms_ 79 = false ∧ mn 79 = 2 ∧ mo 79 = 7 := by decide +kernel
theorem mo80 : mo 80 = 7 := by decide +kernel
theorem ml80 : ml 80 = 5 := by decide +kernel
theorem mr80 : mr 80 = (some .int) := by decide +kernel
theorem mj80 : 80 < 227 ∧ ms_ 80 = false ∧ mn 80 = 1 ∧ mo 80 = 7 := by decide +kernel
theorem mo81 : mo 81 = 7 := by decide +kernel
theorem ml81 : ml 81 = 3 := by decide +kernel
theorem mr81 : mr 81 = (some .int) := by decide +kernel
theorem mj81 : 81 < 227 ∧ ms_ 81 = false ∧ mn 81 = 1 ∧ mo 81 = 7 := by decide +kernel
theorem mo82 : mo 82 = 7 := by decide +kernel
theorem ml82 : ml 82 = 4 := by decide +kernel
theorem mr82 : mr 82 = (some .int) := by decide +kernel
theorem mj82 : 82 < 227 ∧ ms_ 82 = false ∧ mn 82 = 2 ∧ mo 82 = 7 := by decide +kernel
theorem mo83 : mo 83 = 7 := by decide +kernel
theorem ml83 : ml 83 = 2 := by decide +kernel
theorem mr83 : mr 83 = (some .int) := by decide +kernel
theorem mj83 : 83 < 227 ∧ ms_ 83 = false ∧ mn 83 = 1 ∧ mo 83 = 7 := by decide +kernel
theorem mo84 : mo 84 = 7 := by decide +kernel
theorem ml84 : ml 84 = 4 := by decide +kernel
theorem mr84 : mr 84 = (some .int) := by decide +kernel
theorem mj84 : 84 < 227 ∧ ms_ 84 = false ∧ mn 84 = 2 ∧ mo 84 = 7 := by decide +kernel
theorem mo85 : mo 85 = 7 := by decide +kernel
theorem ml85 : ml 85 = 1 := by decide +kernel
theorem mr85 : mr 85 = (some .int) := by decide +kernel
theorem mj85 : 85 < 227 ∧ ms_ 85 = false ∧ mn 85 = 0 ∧ mo 85 = 7 := by decide +kernel
theorem mo86 : mo 86 = 7 := by decide +kernel
theorem ml86 : ml 86 = 5 := by decide +kernel
theorem mr86 : mr 86 = (some .int) := by decide +kernel
theorem mj86 : 86 < 227 ∧ ms_ 86 = false ∧ mn 86 = 0 ∧ mo 86 = 7 := by decide +kernel
theorem mo87 : mo 87 = 7 := by decide +kernel
theorem ml87 : ml 87 = 5 := by decide +kernel
theorem mr87 : mr 87 = (some .int) := by decide +kernel
theorem mj87 : 87 < 227 ∧ ms_ 87 = false ∧ mn 87 = 3 ∧ mo 87 = 7 := by decide +kernel
theorem mo88 : mo 88 = 7 := by decide +kernel
theorem ml88 : ml 88 = 2 := by decide +kernel
theorem mr88 : mr 88 = (some .int) := by decide +kernel
theorem mj88 : 88 < 227 ∧ ms_ 88 = false ∧ mn 88 = 1 ∧ mo 88 = 7 := by decide +kernel
theorem mo89 : mo 89 = 7 := by decide +kernel
theorem ml89 : ml 89 = 4 := by decide +kernel
theorem mr89 : mr 89 = (some .int) := by decide +kernel
theorem mj89 : 89 < 227 ∧ ms_ 89 = false ∧ mn 89 = 3 ∧ mo 89 = 7 := by decide +kernel
theorem mo90 : mo 90 = 7 := by decide +kernel
theorem ml90 : ml 90 = 4 := by decide +kernel
theorem mr90 : mr 90 = (some .int) := by decide +kernel
theorem mj90 : 90 < 227 ∧ ms_ 90 = false ∧ mn 90 = 3 ∧ mo 90 = 7 := by decide +kernel
theorem mo91 : mo 91 = 7 := by decide +kernel
theorem ml91 : ml 91 = 8 := by decide +kernel
theorem mr91 : mr 91 = (some .int) := by decide +kernel
theorem mj91 : 91 < 227 ∧ ms_ 91 = false ∧ mn 91 = 5 ∧ mo 91 = 7 := by decide +kernel
theorem mo92 : mo 92 = 7 := by decide +kernel
theorem ml92 : ml 92 = 5 := by decide +kernel
theorem mr92 : mr 92 = (some .int) := by decide +kernel
theorem mj92 : 92 < 227 ∧ ms_ 92 = false ∧ mn 92 = 1 ∧ mo 92 = 7 := by decide +kernel
theorem mo93 : mo 93 = 7 := by decide +kernel
theorem ml93 : ml 93 = 1 := by decide +kernel
theorem mr93 : mr 93 = (some .int) := by decide +kernel
theorem mj93 : 93 < 227 ∧ ms_ 93 = false ∧ mn 93 = 0 ∧ mo 93 = 7 := by decide +kernel
theorem mo94 : mo 94 = 7 := by decide +kernel
theorem ml94 : ml 94 = 1 := by decide +kernel
theorem mr94 : mr 94 = (some .int) := by decide +kernel
theorem mj94 : 94 < 227 ∧ ms_ 94 = false ∧ mn 94 = 0 ∧ mo 94 = 7 := by decide +kernel
theorem mo95 : mo 95 = 7 := by decide +kernel
theorem ml95 : ml 95 = 2 := by decide +kernel
theorem mr95 : mr 95 = (some .int) := by decide +kernel
theorem mj95 : 95 < 227 ∧ ms_ 95 = false ∧ mn 95 = 1 ∧ mo 95 = 7 := by decide +kernel
theorem mo96 : mo 96 = 7 := by decide +kernel
theorem ml96 : ml 96 = 6 := by decide +kernel
theorem mr96 : mr 96 = (some .int) := by decide +kernel
theorem mj96 : 96 < 227 ∧ ms_ 96 = false ∧ mn 96 = 1 ∧ mo 96 = 7 := by decide +kernel
theorem mo97 : mo 97 = 7 := by decide +kernel
theorem ml97 : ml 97 = 2 := by decide +kernel
theorem mr97 : mr 97 = (some .int) := by decide +kernel
theorem mj97 : 97 < 227 ∧ ms_ 97 = false ∧ mn 97 = 1 ∧ mo 97 = 7 := by decide +kernel
theorem mo98 : mo 98 = 7 := by decide +kernel
theorem ml98 : ml 98 = 2 := by decide +kernel
theorem mr98 : mr 98 = (some .int) := by decide +kernel
theorem mj98 : 98 < 227 ∧ ms_ 98 = false ∧ mn 98 = 1 ∧ mo 98 = 7 := by decide +kernel
theorem mo99 : mo 99 = 7 := by decide +kernel
theorem ml99 : ml 99 = 2 := by decide +kernel
theorem mr99 : mr 99 = (some .int) := by decide +kernel
theorem mj99 : 99 < 227 ∧ ms_ 99 = false ∧ mn 99 = 1 ∧ mo 99 = 7 := by decide +kernel
theorem mo100 : mo 100 = 7 := by decide +kernel
theorem ml100 : ml 100 = 2 := by decide +kernel
theorem mr100 : mr 100 = (some .boolean) := by decide +kernel
theorem mj100 : 100 < 227 ∧ ms_ 100 = false ∧ mn 100 = 0 ∧ mo 100 = 7 := by decide +kernel
theorem mo101 : mo 101 = 7 := by decide +kernel
theorem ml101 : ml 101 = 4 := by decide +kernel
theorem mr101 : mr 101 = (some .int) := by decide +kernel
theorem mj101 : 101 < 227 ∧ ms_ 101 = false ∧ mn 101 = 2 ∧ mo 101 = 7 := by decide +kernel
theorem mo102 : mo 102 = 7 := by decide +kernel
theorem ml102 : ml 102 = 3 := by decide +kernel
theorem mr102 : mr 102 = (some .boolean) := by decide +kernel
theorem mj102 : 102 < 227 ∧ ms_ 102 = true ∧ mn 102 = 3 := by decide +kernel
theorem mo103 : mo 103 = 7 := by decide +kernel
theorem ml103 : ml 103 = 1 := by decide +kernel
theorem mr103 : mr 103 = (some .boolean) := by decide +kernel
theorem mj103 : 103 < 227 ∧ ms_ 103 = true ∧ mn 103 = 1 := by decide +kernel
theorem mo104 : mo 104 = 7 := by decide +kernel
theorem ml104 : ml 104 = 1 := by decide +kernel
theorem mr104 : mr 104 = (some .boolean) := by decide +kernel
theorem mj104 : 104 < 227 ∧ ms_ 104 = true ∧ mn 104 = 1 := by decide +kernel
theorem mo105 : mo 105 = 7 := by decide +kernel
theorem ml105 : ml 105 = 1 := by decide +kernel
theorem mr105 : mr 105 = (some .boolean) := by decide +kernel
theorem mj105 : 105 < 227 ∧ ms_ 105 = true ∧ mn 105 = 1 := by decide +kernel
theorem mo106 : mo 106 = 7 := by decide +kernel
theorem ml106 : ml 106 = 1 := by decide +kernel
theorem mr106 : mr 106 = (some .boolean) := by decide +kernel
theorem mj106 : 106 < 227 ∧ ms_ 106 = true ∧ mn 106 = 1 := by decide +kernel
theorem mo107 : mo 107 = 7 := by decide +kernel
theorem ml107 : ml 107 = 1 := by decide +kernel
theorem mr107 : mr 107 = (some .boolean) := by decide +kernel
theorem mj107 : 107 < 227 ∧ ms_ 107 = true ∧ mn 107 = 1 := by decide +kernel
theorem mo108 : mo 108 = 7 := by decide +kernel
theorem ml108 : ml 108 = 1 := by decide +kernel
theorem mr108 : mr 108 = (some .boolean) := by decide +kernel
theorem mj108 : 108 < 227 ∧ ms_ 108 = true ∧ mn 108 = 1 := by decide +kernel
theorem mo109 : mo 109 = 7 := by decide +kernel
theorem ml109 : ml 109 = 4 := by decide +kernel
theorem mr109 : mr 109 = (some .boolean) := by decide +kernel
theorem mj109 : 109 < 227 ∧ ms_ 109 = true ∧ mn 109 = 2 := by decide +kernel
theorem mo110 : mo 110 = 7 := by decide +kernel
theorem ml110 : ml 110 = 4 := by decide +kernel
theorem mr110 : mr 110 = (some .int) := by decide +kernel
theorem mj110 : 110 < 227 ∧ ms_ 110 = true ∧ mn 110 = 2 := by decide +kernel
theorem mo111 : mo 111 = 8 := by decide +kernel
theorem ml111 : ml 111 = 2 := by decide +kernel
theorem mr111 : mr 111 = (some .int) := by decide +kernel
theorem mj111 : 111 < 227 ∧ ms_ 111 = false ∧ mn 111 = 1 ∧ mo 111 = 8 := by decide +kernel
theorem mo112 : mo 112 = 8 := by decide +kernel
theorem ml112 : ml 112 = 3 := by decide +kernel
theorem mr112 : mr 112 = (some .boolean) := by decide +kernel
theorem mj112 : 112 < 227 ∧ ms_ 112 = true ∧ mn 112 = 3 := by decide +kernel
theorem mo113 : mo 113 = 8 := by decide +kernel
theorem ml113 : ml 113 = 2 := by decide +kernel
theorem mr113 : mr 113 = (some .boolean) := by decide +kernel
theorem mj113 : 113 < 227 ∧ ms_ 113 = true ∧ mn 113 = 2 := by decide +kernel
theorem mo114 : mo 114 = 8 := by decide +kernel
theorem ml114 : ml 114 = 3 := by decide +kernel
theorem mr114 : mr 114 = (some .int) := by decide +kernel
theorem mj114 : 114 < 227 ∧ ms_ 114 = true ∧ mn 114 = 3 := by decide +kernel
theorem mo115 : mo 115 = 8 := by decide +kernel
theorem ml115 : ml 115 = 3 := by decide +kernel
theorem mr115 : mr 115 = none := by decide +kernel
theorem mj115 : 115 < 227 ∧ ms_ 115 = true ∧ mn 115 = 2 := by decide +kernel
theorem mo116 : mo 116 = 8 := by decide +kernel
theorem ml116 : ml 116 = 4 := by decide +kernel
theorem mr116 : mr 116 = (some .int) := by decide +kernel
theorem mj116 : 116 < 227 ∧ ms_ 116 = false ∧ mn 116 = 2 ∧ mo 116 = 8 := by decide +kernel
theorem mo117 : mo 117 = 8 := by decide +kernel
theorem ml117 : ml 117 = 2 := by decide +kernel
theorem mr117 : mr 117 = (some .int) := by decide +kernel
theorem mj117 : 117 < 227 ∧ ms_ 117 = false ∧ mn 117 = 1 ∧ mo 117 = 8 := by decide +kernel
theorem mo118 : mo 118 = 8 := by decide +kernel
theorem ml118 : ml 118 = 3 := by decide +kernel
theorem mr118 : mr 118 = (some .int) := by decide +kernel
theorem mj118 : 118 < 227 ∧ ms_ 118 = false ∧ mn 118 = 2 ∧ mo 118 = 8 := by decide +kernel
theorem mo119 : mo 119 = 8 := by decide +kernel
theorem ml119 : ml 119 = 4 := by decide +kernel
theorem mr119 : mr 119 = none := by decide +kernel
theorem mj119 : 119 < 227 ∧ ms_ 119 = false ∧ mn 119 = 3 ∧ mo 119 = 8 := by decide +kernel
theorem mo120 : mo 120 = 8 := by decide +kernel
theorem ml120 : ml 120 = 1 := by decide +kernel
theorem mr120 : mr 120 = (some .boolean) := by decide +kernel
theorem mj120 : 120 < 227 ∧ ms_ 120 = true ∧ mn 120 = 1 := by decide +kernel
theorem mo121 : mo 121 = 8 := by decide +kernel
theorem ml121 : ml 121 = 2 := by decide +kernel
theorem mr121 : mr 121 = (some .boolean) := by decide +kernel
theorem mj121 : 121 < 227 ∧ ms_ 121 = false ∧ mn 121 = 1 ∧ mo 121 = 8 := by decide +kernel
theorem mo122 : mo 122 = 8 := by decide +kernel
theorem ml122 : ml 122 = 2 := by decide +kernel
theorem mr122 : mr 122 = (some .boolean) := by decide +kernel
theorem mj122 : 122 < 227 ∧ ms_ 122 = false ∧ mn 122 = 1 ∧ mo 122 = 8 := by decide +kernel
theorem mo123 : mo 123 = 8 := by decide +kernel
theorem ml123 : ml 123 = 3 := by decide +kernel
theorem mr123 : mr 123 = (some .int) := by decide +kernel
theorem mj123 : 123 < 227 ∧ ms_ 123 = false ∧ mn 123 = 1 ∧ mo 123 = 8 := by decide +kernel
theorem mo124 : mo 124 = 8 := by decide +kernel
theorem ml124 : ml 124 = 5 := by decide +kernel
theorem mr124 : mr 124 = (some .boolean) := by decide +kernel
theorem mj124 : 124 < 227 ∧ ms_ 124 = false ∧ mn 124 = 4 ∧ mo 124 = 8 := by decide +kernel
theorem mo125 : mo 125 = 8 := by decide +kernel
theorem ml125 : ml 125 = 6 := by decide +kernel
theorem mr125 : mr 125 = (some .int) := by decide +kernel
theorem mj125 : 125 < 227 ∧ ms_ 125 = false ∧ mn 125 = 4 ∧ mo 125 = 8 := by decide +kernel
theorem mo126 : mo 126 = 8 := by decide +kernel
theorem ml126 : ml 126 = 5 := by decide +kernel
theorem mr126 : mr 126 = (some .int) := by decide +kernel
theorem mj126 : 126 < 227 ∧ ms_ 126 = false ∧ mn 126 = 4 ∧ mo 126 = 8 := by decide +kernel
theorem mo127 : mo 127 = 8 := by decide +kernel
theorem ml127 : ml 127 = 4 := by decide +kernel
theorem mr127 : mr 127 = none := by decide +kernel
theorem mj127 : 127 < 227 ∧ ms_ 127 = false ∧ mn 127 = 1 ∧ mo 127 = 8 := by decide +kernel
theorem mo128 : mo 128 = 8 := by decide +kernel
theorem ml128 : ml 128 = 3 := by decide +kernel
theorem mr128 : mr 128 = (some .int) := by decide +kernel
theorem mj128 : 128 < 227 ∧ ms_ 128 = false ∧ mn 128 = 1 ∧ mo 128 = 8 := by decide +kernel
theorem mo129 : mo 129 = 8 := by decide +kernel
theorem ml129 : ml 129 = 2 := by decide +kernel
theorem mr129 : mr 129 = (some .int) := by decide +kernel
theorem mj129 : 129 < 227 ∧ ms_ 129 = true ∧ mn 129 = 2 := by decide +kernel
theorem mo130 : mo 130 = 8 := by decide +kernel
theorem ml130 : ml 130 = 4 := by decide +kernel
theorem mr130 : mr 130 = (some .boolean) := by decide +kernel
theorem mj130 : 130 < 227 ∧ ms_ 130 = false ∧ mn 130 = 2 ∧ mo 130 = 8 := by decide +kernel
theorem mo131 : mo 131 = 8 := by decide +kernel
theorem ml131 : ml 131 = 5 := by decide +kernel
theorem mr131 : mr 131 = (some .int) := by decide +kernel
theorem mj131 : 131 < 227 ∧ ms_ 131 = false ∧ mn 131 = 1 ∧ mo 131 = 8 := by decide +kernel
theorem mo132 : mo 132 = 8 := by decide +kernel
theorem ml132 : ml 132 = 4 := by decide +kernel
theorem mr132 : mr 132 = (some .int) := by decide +kernel
theorem mj132 : 132 < 227 ∧ ms_ 132 = false ∧ mn 132 = 2 ∧ mo 132 = 8 := by decide +kernel
theorem mo133 : mo 133 = 8 := by decide +kernel
theorem ml133 : ml 133 = 1 := by decide +kernel
theorem mr133 : mr 133 = (some .int) := by decide +kernel
theorem mj133 : 133 < 227 ∧ ms_ 133 = true ∧ mn 133 = 1 := by decide +kernel
theorem mo134 : mo 134 = 8 := by decide +kernel
theorem ml134 : ml 134 = 4 := by decide +kernel
theorem mr134 : mr 134 = (some .int) := by decide +kernel
theorem mj134 : 134 < 227 ∧ ms_ 134 = false ∧ mn 134 = 2 ∧ mo 134 = 8 := by decide +kernel
theorem mo135 : mo 135 = 8 := by decide +kernel
theorem ml135 : ml 135 = 5 := by decide +kernel
theorem mr135 : mr 135 = (some .int) := by decide +kernel
theorem mj135 : 135 < 227 ∧ ms_ 135 = false ∧ mn 135 = 4 ∧ mo 135 = 8 := by decide +kernel
theorem mo136 : mo 136 = 8 := by decide +kernel
theorem ml136 : ml 136 = 3 := by decide +kernel
theorem mr136 : mr 136 = (some .int) := by decide +kernel
theorem mj136 : 136 < 227 ∧ ms_ 136 = false ∧ mn 136 = 2 ∧ mo 136 = 8 := by decide +kernel
theorem mo137 : mo 137 = 8 := by decide +kernel
theorem ml137 : ml 137 = 3 := by decide +kernel
theorem mr137 : mr 137 = (some .int) := by decide +kernel
theorem mj137 : 137 < 227 ∧ ms_ 137 = false ∧ mn 137 = 2 ∧ mo 137 = 8 := by decide +kernel
theorem mo138 : mo 138 = 8 := by decide +kernel
theorem ml138 : ml 138 = 2 := by decide +kernel
theorem mr138 : mr 138 = none := by decide +kernel
theorem mj138 : 138 < 227 ∧ ms_ 138 = false ∧ mn 138 = 1 ∧ mo 138 = 8 := by decide +kernel
theorem mo139 : mo 139 = 8 := by decide +kernel
theorem ml139 : ml 139 = 2 := by decide +kernel
theorem mr139 : mr 139 = (some .int) := by decide +kernel
theorem mj139 : 139 < 227 ∧ ms_ 139 = false ∧ mn 139 = 1 ∧ mo 139 = 8 := by decide +kernel
theorem mo140 : mo 140 = 8 := by decide +kernel
theorem ml140 : ml 140 = 3 := by decide +kernel
theorem mr140 : mr 140 = none := by decide +kernel
theorem mj140 : 140 < 227 ∧ ms_ 140 = false ∧ mn 140 = 2 ∧ mo 140 = 8 := by decide +kernel
theorem mo141 : mo 141 = 8 := by decide +kernel
theorem ml141 : ml 141 = 3 := by decide +kernel
theorem mr141 : mr 141 = (some .int) := by decide +kernel
theorem mj141 : 141 < 227 ∧ ms_ 141 = false ∧ mn 141 = 2 ∧ mo 141 = 8 := by decide +kernel
theorem mo142 : mo 142 = 8 := by decide +kernel
theorem ml142 : ml 142 = 3 := by decide +kernel
theorem mr142 : mr 142 = (some .int) := by decide +kernel
theorem mj142 : 142 < 227 ∧ ms_ 142 = false ∧ mn 142 = 2 ∧ mo 142 = 8 := by decide +kernel
theorem mo143 : mo 143 = 8 := by decide +kernel
theorem ml143 : ml 143 = 5 := by decide +kernel
theorem mr143 : mr 143 = (some .int) := by decide +kernel
theorem mj143 : 143 < 227 ∧ ms_ 143 = false ∧ mn 143 = 2 ∧ mo 143 = 8 := by decide +kernel
theorem mo144 : mo 144 = 8 := by decide +kernel
theorem ml144 : ml 144 = 1 := by decide +kernel
theorem mr144 : mr 144 = (some .int) := by decide +kernel
theorem mj144 : 144 < 227 ∧ ms_ 144 = false ∧ mn 144 = 0 ∧ mo 144 = 8 := by decide +kernel
theorem mo145 : mo 145 = 8 := by decide +kernel
theorem ml145 : ml 145 = 3 := by decide +kernel
theorem mr145 : mr 145 = (some .boolean) := by decide +kernel
theorem mj145 : 145 < 227 ∧ ms_ 145 = false ∧ mn 145 = 1 ∧ mo 145 = 8 := by decide +kernel
theorem mo146 : mo 146 = 8 := by decide +kernel
theorem ml146 : ml 146 = 2 := by decide +kernel
theorem mr146 : mr 146 = none := by decide +kernel
theorem mj146 : 146 < 227 ∧ ms_ 146 = false ∧ mn 146 = 1 ∧ mo 146 = 8 := by decide +kernel
theorem mo147 : mo 147 = 8 := by decide +kernel
theorem ml147 : ml 147 = 1 := by decide +kernel
theorem mr147 : mr 147 = none := by decide +kernel
theorem mj147 : 147 < 227 ∧ ms_ 147 = false ∧ mn 147 = 0 ∧ mo 147 = 8 := by decide +kernel
theorem mo148 : mo 148 = 8 := by decide +kernel
theorem ml148 : ml 148 = 1 := by decide +kernel
theorem mr148 : mr 148 = none := by decide +kernel
theorem mj148 : 148 < 227 ∧ ms_ 148 = false ∧ mn 148 = 0 ∧ mo 148 = 8 := by decide +kernel
theorem mo149 : mo 149 = 8 := by decide +kernel
theorem ml149 : ml 149 = 2 := by decide +kernel
theorem mr149 : mr 149 = none := by decide +kernel
theorem mj149 : 149 < 227 ∧ ms_ 149 = false ∧ mn 149 = 0 ∧ mo 149 = 8 := by decide +kernel
theorem mo150 : mo 150 = 8 := by decide +kernel
theorem ml150 : ml 150 = 2 := by decide +kernel
theorem mr150 : mr 150 = none := by decide +kernel
theorem mj150 : 150 < 227 ∧ ms_ 150 = false ∧ mn 150 = 0 ∧ mo 150 = 8 := by decide +kernel
theorem mo151 : mo 151 = 8 := by decide +kernel
theorem ml151 : ml 151 = 2 := by decide +kernel
theorem mr151 : mr 151 = none := by decide +kernel
theorem mj151 : 151 < 227 ∧ ms_ 151 = false ∧ mn 151 = 0 ∧ mo 151 = 8 := by decide +kernel
theorem mo152 : mo 152 = 8 := by decide +kernel
theorem ml152 : ml 152 = 4 := by decide +kernel
theorem mr152 : mr 152 = (some .int) := by decide +kernel
theorem mj152 : 152 < 227 ∧ ms_ 152 = false ∧ mn 152 = 1 ∧ mo 152 = 8 := by decide +kernel
theorem mo153 : mo 153 = 8 := by decide +kernel
theorem ml153 : ml 153 = 4 := by decide +kernel
theorem mr153 : mr 153 = none := by decide +kernel
theorem mj153 : 153 < 227 ∧ ms_ 153 = false ∧ mn 153 = 0 ∧ mo 153 = 8 := by decide +kernel
theorem mo154 : mo 154 = 8 := by decide +kernel
theorem ml154 : ml 154 = 3 := by decide +kernel
theorem mr154 : mr 154 = (some .int) := by decide +kernel
theorem mj154 : 154 < 227 ∧ ms_ 154 = false ∧ mn 154 = 1 ∧ mo 154 = 8 := by decide +kernel
theorem mo155 : mo 155 = 8 := by decide +kernel
theorem ml155 : ml 155 = 2 := by decide +kernel
theorem mr155 : mr 155 = (some .int) := by decide +kernel
theorem mj155 : 155 < 227 ∧ ms_ 155 = false ∧ mn 155 = 1 ∧ mo 155 = 8 := by decide +kernel
theorem mo156 : mo 156 = 8 := by decide +kernel
theorem ml156 : ml 156 = 3 := by decide +kernel
theorem mr156 : mr 156 = (some .int) := by decide +kernel
theorem mj156 : 156 < 227 ∧ ms_ 156 = true ∧ mn 156 = 3 := by decide +kernel
theorem mo157 : mo 157 = 8 := by decide +kernel
theorem ml157 : ml 157 = 5 := by decide +kernel
theorem mr157 : mr 157 = (some .int) := by decide +kernel
theorem mj157 : 157 < 227 ∧ ms_ 157 = false ∧ mn 157 = 1 ∧ mo 157 = 8 := by decide +kernel
theorem mo158 : mo 158 = 8 := by decide +kernel
theorem ml158 : ml 158 = 7 := by decide +kernel
theorem mr158 : mr 158 = (some .int) := by decide +kernel
theorem mj158 : 158 < 227 ∧ ms_ 158 = false ∧ mn 158 = 5 ∧ mo 158 = 8 := by decide +kernel
theorem mo159 : mo 159 = 8 := by decide +kernel
theorem ml159 : ml 159 = 4 := by decide +kernel
theorem mr159 : mr 159 = (some .int) := by decide +kernel
theorem mj159 : 159 < 227 ∧ ms_ 159 = false ∧ mn 159 = 1 ∧ mo 159 = 8 := by decide +kernel
theorem mo160 : mo 160 = 8 := by decide +kernel
theorem ml160 : ml 160 = 1 := by decide +kernel
theorem mr160 : mr 160 = (some .boolean) := by decide +kernel
theorem mj160 : 160 < 227 ∧ ms_ 160 = false ∧ mn 160 = 0 ∧ mo 160 = 8 := by decide +kernel
theorem mo161 : mo 161 = 8 := by decide +kernel
theorem ml161 : ml 161 = 1 := by decide +kernel
theorem mr161 : mr 161 = (some .int) := by decide +kernel
theorem mj161 : 161 < 227 ∧ ms_ 161 = false ∧ mn 161 = 0 ∧ mo 161 = 8 := by decide +kernel
theorem mo162 : mo 162 = 8 := by decide +kernel
theorem ml162 : ml 162 = 4 := by decide +kernel
theorem mr162 : mr 162 = (some .int) := by decide +kernel
theorem mj162 : 162 < 227 ∧ ms_ 162 = false ∧ mn 162 = 1 ∧ mo 162 = 8 := by decide +kernel
theorem mo163 : mo 163 = 8 := by decide +kernel
theorem ml163 : ml 163 = 2 := by decide +kernel
theorem mr163 : mr 163 = (some .int) := by decide +kernel
theorem mj163 : 163 < 227 ∧ ms_ 163 = true ∧ mn 163 = 2 := by decide +kernel
theorem mo164 : mo 164 = 8 := by decide +kernel
theorem ml164 : ml 164 = 3 := by decide +kernel
theorem mr164 : mr 164 = none := by decide +kernel
theorem mj164 : 164 < 227 ∧ ms_ 164 = false ∧ mn 164 = 2 ∧ mo 164 = 8 := by decide +kernel
theorem mo165 : mo 165 = 8 := by decide +kernel
theorem ml165 : ml 165 = 3 := by decide +kernel
theorem mr165 : mr 165 = (some .boolean) := by decide +kernel
theorem mj165 : 165 < 227 ∧ ms_ 165 = false ∧ mn 165 = 1 ∧ mo 165 = 8 := by decide +kernel
theorem mo166 : mo 166 = 8 := by decide +kernel
theorem ml166 : ml 166 = 5 := by decide +kernel
theorem mr166 : mr 166 = none := by decide +kernel
theorem mj166 : 166 < 227 ∧ ms_ 166 = false ∧ mn 166 = 1 ∧ mo 166 = 8 := by decide +kernel
theorem mo167 : mo 167 = 8 := by decide +kernel
theorem ml167 : ml 167 = 4 := by decide +kernel
theorem mr167 : mr 167 = (some .int) := by decide +kernel
theorem mj167 : 167 < 227 ∧ ms_ 167 = true ∧ mn 167 = 2 := by decide +kernel
theorem mo168 : mo 168 = 8 := by decide +kernel
theorem ml168 : ml 168 = 6 := by decide +kernel
theorem mr168 : mr 168 = none := by decide +kernel
theorem mj168 : 168 < 227 ∧ ms_ 168 = false ∧ mn 168 = 0 ∧ mo 168 = 8 := by decide +kernel
theorem mo169 : mo 169 = 8 := by decide +kernel
theorem ml169 : ml 169 = 2 := by decide +kernel
theorem mr169 : mr 169 = none := by decide +kernel
theorem mj169 : 169 < 227 ∧ ms_ 169 = false ∧ mn 169 = 0 ∧ mo 169 = 8 := by decide +kernel
theorem mo170 : mo 170 = 8 := by decide +kernel
theorem ml170 : ml 170 = 3 := by decide +kernel
theorem mr170 : mr 170 = none := by decide +kernel
theorem mj170 : 170 < 227 ∧ ms_ 170 = false ∧ mn 170 = 1 ∧ mo 170 = 8 := by decide +kernel
theorem mo171 : mo 171 = 8 := by decide +kernel
theorem ml171 : ml 171 = 2 := by decide +kernel
theorem mr171 : mr 171 = (some .int) := by decide +kernel
theorem mj171 : 171 < 227 ∧ ms_ 171 = false ∧ mn 171 = 1 ∧ mo 171 = 8 := by decide +kernel
theorem mo172 : mo 172 = 8 := by decide +kernel
theorem ml172 : ml 172 = 3 := by decide +kernel
theorem mr172 : mr 172 = (some .int) := by decide +kernel
theorem mj172 : 172 < 227 ∧ ms_ 172 = false ∧ mn 172 = 1 ∧ mo 172 = 8 := by decide +kernel
theorem mo173 : mo 173 = 8 := by decide +kernel
theorem ml173 : ml 173 = 2 := by decide +kernel
theorem mr173 : mr 173 = (some .int) := by decide +kernel
theorem mj173 : 173 < 227 ∧ ms_ 173 = false ∧ mn 173 = 1 ∧ mo 173 = 8 := by decide +kernel
theorem mo174 : mo 174 = 8 := by decide +kernel
theorem ml174 : ml 174 = 5 := by decide +kernel
theorem mr174 : mr 174 = (some .int) := by decide +kernel
theorem mj174 : 174 < 227 ∧ ms_ 174 = false ∧ mn 174 = 1 ∧ mo 174 = 8 := by decide +kernel
theorem mo175 : mo 175 = 8 := by decide +kernel
theorem ml175 : ml 175 = 2 := by decide +kernel
theorem mr175 : mr 175 = (some .int) := by decide +kernel
theorem mj175 : 175 < 227 ∧ ms_ 175 = false ∧ mn 175 = 1 ∧ mo 175 = 8 := by decide +kernel
theorem mo176 : mo 176 = 8 := by decide +kernel
theorem ml176 : ml 176 = 1 := by decide +kernel
theorem mr176 : mr 176 = (some .boolean) := by decide +kernel
theorem mj176 : 176 < 227 ∧ ms_ 176 = true ∧ mn 176 = 1 := by decide +kernel
theorem mo177 : mo 177 = 8 := by decide +kernel
theorem ml177 : ml 177 = 6 := by decide +kernel
theorem mr177 : mr 177 = (some .int) := by decide +kernel
theorem mj177 : 177 < 227 ∧ ms_ 177 = false ∧ mn 177 = 3 ∧ mo 177 = 8 := by decide +kernel
theorem mo178 : mo 178 = 8 := by decide +kernel
theorem ml178 : ml 178 = 3 := by decide +kernel
theorem mr178 : mr 178 = (some .int) := by decide +kernel
theorem mj178 : 178 < 227 ∧ ms_ 178 = false ∧ mn 178 = 2 ∧ mo 178 = 8 := by decide +kernel
theorem mo179 : mo 179 = 8 := by decide +kernel
theorem ml179 : ml 179 = 4 := by decide +kernel
theorem mr179 : mr 179 = (some .int) := by decide +kernel
theorem mj179 : 179 < 227 ∧ ms_ 179 = false ∧ mn 179 = 1 ∧ mo 179 = 8 := by decide +kernel
theorem mo180 : mo 180 = 8 := by decide +kernel
theorem ml180 : ml 180 = 2 := by decide +kernel
theorem mr180 : mr 180 = (some .int) := by decide +kernel
theorem mj180 : 180 < 227 ∧ ms_ 180 = false ∧ mn 180 = 1 ∧ mo 180 = 8 := by decide +kernel
theorem mo181 : mo 181 = 8 := by decide +kernel
theorem ml181 : ml 181 = 1 := by decide +kernel
theorem mr181 : mr 181 = (some .boolean) := by decide +kernel
theorem mj181 : 181 < 227 ∧ ms_ 181 = true ∧ mn 181 = 1 := by decide +kernel
theorem mo182 : mo 182 = 8 := by decide +kernel
theorem ml182 : ml 182 = 3 := by decide +kernel
theorem mr182 : mr 182 = (some .int) := by decide +kernel
theorem mj182 : 182 < 227 ∧ ms_ 182 = false ∧ mn 182 = 2 ∧ mo 182 = 8 := by decide +kernel
theorem mo183 : mo 183 = 8 := by decide +kernel
theorem ml183 : ml 183 = 4 := by decide +kernel
theorem mr183 : mr 183 = (some .int) := by decide +kernel
theorem mj183 : 183 < 227 ∧ ms_ 183 = false ∧ mn 183 = 3 ∧ mo 183 = 8 := by decide +kernel
theorem mo184 : mo 184 = 8 := by decide +kernel
theorem ml184 : ml 184 = 4 := by decide +kernel
theorem mr184 : mr 184 = (some .long) := by decide +kernel
theorem mj184 : 184 < 227 ∧ ms_ 184 = false ∧ mn 184 = 0 ∧ mo 184 = 8 := by decide +kernel
theorem mo185 : mo 185 = 8 := by decide +kernel
theorem ml185 : ml 185 = 9 := by decide +kernel
theorem mr185 : mr 185 = (some .int) := by decide +kernel
theorem mj185 : 185 < 227 ∧ ms_ 185 = false ∧ mn 185 = 2 ∧ mo 185 = 8 := by decide +kernel
theorem mo186 : mo 186 = 8 := by decide +kernel
theorem ml186 : ml 186 = 6 := by decide +kernel
theorem mr186 : mr 186 = (some .int) := by decide +kernel
theorem mj186 : 186 < 227 ∧ ms_ 186 = false ∧ mn 186 = 1 ∧ mo 186 = 8 := by decide +kernel
theorem mo187 : mo 187 = 8 := by decide +kernel
theorem ml187 : ml 187 = 4 := by decide +kernel
theorem mr187 : mr 187 = (some .int) := by decide +kernel
theorem mj187 : 187 < 227 ∧ ms_ 187 = false ∧ mn 187 = 1 ∧ mo 187 = 8 := by decide +kernel
theorem mo188 : mo 188 = 8 := by decide +kernel
theorem ml188 : ml 188 = 5 := by decide +kernel
theorem mr188 : mr 188 = (some .int) := by decide +kernel
theorem mj188 : 188 < 227 ∧ ms_ 188 = false ∧ mn 188 = 2 ∧ mo 188 = 8 := by decide +kernel
theorem mo189 : mo 189 = 8 := by decide +kernel
theorem ml189 : ml 189 = 7 := by decide +kernel
theorem mr189 : mr 189 = (some .int) := by decide +kernel
theorem mj189 : 189 < 227 ∧ ms_ 189 = false ∧ mn 189 = 1 ∧ mo 189 = 8 := by decide +kernel
theorem mo190 : mo 190 = 8 := by decide +kernel
theorem ml190 : ml 190 = 3 := by decide +kernel
theorem mr190 : mr 190 = (some .int) := by decide +kernel
theorem mj190 : 190 < 227 ∧ ms_ 190 = true ∧ mn 190 = 1 := by decide +kernel
theorem mo191 : mo 191 = 8 := by decide +kernel
theorem ml191 : ml 191 = 4 := by decide +kernel
theorem mr191 : mr 191 = (some .int) := by decide +kernel
theorem mj191 : 191 < 227 ∧ ms_ 191 = false ∧ mn 191 = 2 ∧ mo 191 = 8 := by decide +kernel
theorem mo192 : mo 192 = 8 := by decide +kernel
theorem ml192 : ml 192 = 5 := by decide +kernel
theorem mr192 : mr 192 = (some .int) := by decide +kernel
theorem mj192 : 192 < 227 ∧ ms_ 192 = false ∧ mn 192 = 1 ∧ mo 192 = 8 := by decide +kernel
theorem mo193 : mo 193 = 8 := by decide +kernel
theorem ml193 : ml 193 = 4 := by decide +kernel
theorem mr193 : mr 193 = (some .int) := by decide +kernel
theorem mj193 : 193 < 227 ∧ ms_ 193 = false ∧ mn 193 = 1 ∧ mo 193 = 8 := by decide +kernel
theorem mo194 : mo 194 = 8 := by decide +kernel
theorem ml194 : ml 194 = 1 := by decide +kernel
theorem mr194 : mr 194 = (some .int) := by decide +kernel
theorem mj194 : 194 < 227 ∧ ms_ 194 = false ∧ mn 194 = 0 ∧ mo 194 = 8 := by decide +kernel
theorem mo195 : mo 195 = 8 := by decide +kernel
theorem ml195 : ml 195 = 5 := by decide +kernel
theorem mr195 : mr 195 = (some .int) := by decide +kernel
theorem mj195 : 195 < 227 ∧ ms_ 195 = false ∧ mn 195 = 0 ∧ mo 195 = 8 := by decide +kernel
theorem mo196 : mo 196 = 8 := by decide +kernel
theorem ml196 : ml 196 = 2 := by decide +kernel
theorem mr196 : mr 196 = none := by decide +kernel
theorem mj196 : 196 < 227 ∧ ms_ 196 = false ∧ mn 196 = 1 ∧ mo 196 = 8 := by decide +kernel
theorem mo197 : mo 197 = 8 := by decide +kernel
theorem ml197 : ml 197 = 2 := by decide +kernel
theorem mr197 : mr 197 = (some .boolean) := by decide +kernel
theorem mj197 : 197 < 227 ∧ ms_ 197 = true ∧ mn 197 = 2 := by decide +kernel
theorem mo198 : mo 198 = 8 := by decide +kernel
theorem ml198 : ml 198 = 3 := by decide +kernel
theorem mr198 : mr 198 = (some .int) := by decide +kernel
theorem mj198 : 198 < 227 ∧ ms_ 198 = false ∧ mn 198 = 2 ∧ mo 198 = 8 := by decide +kernel
theorem mo199 : mo 199 = 8 := by decide +kernel
theorem ml199 : ml 199 = 5 := by decide +kernel
theorem mr199 : mr 199 = (some .int) := by decide +kernel
theorem mj199 : 199 < 227 ∧ ms_ 199 = false ∧ mn 199 = 3 ∧ mo 199 = 8 := by decide +kernel
theorem mo200 : mo 200 = 8 := by decide +kernel
theorem ml200 : ml 200 = 6 := by decide +kernel
theorem mr200 : mr 200 = (some .int) := by decide +kernel
theorem mj200 : 200 < 227 ∧ ms_ 200 = false ∧ mn 200 = 3 ∧ mo 200 = 8 := by decide +kernel
theorem mo201 : mo 201 = 8 := by decide +kernel
theorem ml201 : ml 201 = 5 := by decide +kernel
theorem mr201 : mr 201 = (some .int) := by decide +kernel
theorem mj201 : 201 < 227 ∧ ms_ 201 = false ∧ mn 201 = 3 ∧ mo 201 = 8 := by decide +kernel
theorem mo202 : mo 202 = 8 := by decide +kernel
theorem ml202 : ml 202 = 2 := by decide +kernel
theorem mr202 : mr 202 = (some .int) := by decide +kernel
theorem mj202 : 202 < 227 ∧ ms_ 202 = false ∧ mn 202 = 1 ∧ mo 202 = 8 := by decide +kernel
theorem mo203 : mo 203 = 8 := by decide +kernel
theorem ml203 : ml 203 = 1 := by decide +kernel
theorem mr203 : mr 203 = (some .boolean) := by decide +kernel
theorem mj203 : 203 < 227 ∧ ms_ 203 = true ∧ mn 203 = 1 := by decide +kernel
theorem mo204 : mo 204 = 8 := by decide +kernel
theorem ml204 : ml 204 = 5 := by decide +kernel
theorem mr204 : mr 204 = (some .int) := by decide +kernel
theorem mj204 : 204 < 227 ∧ ms_ 204 = false ∧ mn 204 = 3 ∧ mo 204 = 8 := by decide +kernel
theorem mo205 : mo 205 = 8 := by decide +kernel
theorem ml205 : ml 205 = 4 := by decide +kernel
theorem mr205 : mr 205 = (some .int) := by decide +kernel
theorem mj205 : 205 < 227 ∧ ms_ 205 = false ∧ mn 205 = 3 ∧ mo 205 = 8 := by decide +kernel
theorem mo206 : mo 206 = 8 := by decide +kernel
theorem ml206 : ml 206 = 7 := by decide +kernel
theorem mr206 : mr 206 = (some .int) := by decide +kernel
theorem mj206 : 206 < 227 ∧ ms_ 206 = false ∧ mn 206 = 5 ∧ mo 206 = 8 := by decide +kernel
theorem mo207 : mo 207 = 8 := by decide +kernel
theorem ml207 : ml 207 = 5 := by decide +kernel
theorem mr207 : mr 207 = (some .int) := by decide +kernel
theorem mj207 : 207 < 227 ∧ ms_ 207 = false ∧ mn 207 = 1 ∧ mo 207 = 8 := by decide +kernel
theorem mo208 : mo 208 = 8 := by decide +kernel
theorem ml208 : ml 208 = 1 := by decide +kernel
theorem mr208 : mr 208 = (some .int) := by decide +kernel
theorem mj208 : 208 < 227 ∧ ms_ 208 = false ∧ mn 208 = 0 ∧ mo 208 = 8 := by decide +kernel
theorem mo209 : mo 209 = 8 := by decide +kernel
theorem ml209 : ml 209 = 1 := by decide +kernel
theorem mr209 : mr 209 = (some .int) := by decide +kernel
theorem mj209 : 209 < 227 ∧ ms_ 209 = false ∧ mn 209 = 0 ∧ mo 209 = 8 := by decide +kernel
theorem mo210 : mo 210 = 8 := by decide +kernel
theorem ml210 : ml 210 = 2 := by decide +kernel
theorem mr210 : mr 210 = (some .int) := by decide +kernel
theorem mj210 : 210 < 227 ∧ ms_ 210 = false ∧ mn 210 = 1 ∧ mo 210 = 8 := by decide +kernel
theorem mo211 : mo 211 = 8 := by decide +kernel
theorem ml211 : ml 211 = 5 := by decide +kernel
theorem mr211 : mr 211 = (some .int) := by decide +kernel
theorem mj211 : 211 < 227 ∧ ms_ 211 = false ∧ mn 211 = 1 ∧ mo 211 = 8 := by decide +kernel
theorem mo212 : mo 212 = 8 := by decide +kernel
theorem ml212 : ml 212 = 2 := by decide +kernel
theorem mr212 : mr 212 = (some .int) := by decide +kernel
theorem mj212 : 212 < 227 ∧ ms_ 212 = false ∧ mn 212 = 1 ∧ mo 212 = 8 := by decide +kernel
theorem mo213 : mo 213 = 8 := by decide +kernel
theorem ml213 : ml 213 = 2 := by decide +kernel
theorem mr213 : mr 213 = (some .int) := by decide +kernel
theorem mj213 : 213 < 227 ∧ ms_ 213 = false ∧ mn 213 = 1 ∧ mo 213 = 8 := by decide +kernel
theorem mo214 : mo 214 = 9 := by decide +kernel
theorem ml214 : ml 214 = 1 := by decide +kernel
theorem mr214 : mr 214 = (some .boolean) := by decide +kernel
theorem mj214 : 214 < 227 ∧ ms_ 214 = false ∧ mn 214 = 0 ∧ mo 214 = 9 := by decide +kernel
theorem mo215 : mo 215 = 9 := by decide +kernel
theorem ml215 : ml 215 = 1 := by decide +kernel
theorem mr215 : mr 215 = (some .byte) := by decide +kernel
theorem mj215 : 215 < 227 ∧ ms_ 215 = false ∧ mn 215 = 0 ∧ mo 215 = 9 := by decide +kernel
theorem mo216 : mo 216 = 9 := by decide +kernel
theorem ml216 : ml 216 = 1 := by decide +kernel
theorem mr216 : mr 216 = (some .int) := by decide +kernel
theorem mj216 : 216 < 227 ∧ ms_ 216 = false ∧ mn 216 = 0 ∧ mo 216 = 9 := by decide +kernel
theorem mo217 : mo 217 = 10 := by decide +kernel
theorem ml217 : ml 217 = 1 := by decide +kernel
theorem mr217 : mr 217 = (some .boolean) := by decide +kernel
theorem mj217 : 217 < 227 ∧ ms_ 217 = true ∧ mn 217 = 1 := by decide +kernel
theorem mo218 : mo 218 = 10 := by decide +kernel
theorem ml218 : ml 218 = 6 := by decide +kernel
theorem mr218 : mr 218 = (some .int) := by decide +kernel
theorem mj218 : 218 < 227 ∧ ms_ 218 = true ∧ mn 218 = 4 := by decide +kernel
theorem mo219 : mo 219 = 10 := by decide +kernel
theorem ml219 : ml 219 = 4 := by decide +kernel
theorem mr219 : mr 219 = (some .int) := by decide +kernel
theorem mj219 : 219 < 227 ∧ ms_ 219 = true ∧ mn 219 = 4 := by decide +kernel
theorem mo220 : mo 220 = 9 := by decide +kernel
theorem ml220 : ml 220 = 3 := by decide +kernel
theorem mr220 : mr 220 = (some .int) := by decide +kernel
theorem mj220 : 220 < 227 ∧ ms_ 220 = false ∧ mn 220 = 2 ∧ mo 220 = 9 := by decide +kernel
theorem mo221 : mo 221 = 9 := by decide +kernel
theorem ml221 : ml 221 = 2 := by decide +kernel
theorem mr221 : mr 221 = (some .int) := by decide +kernel
theorem mj221 : 221 < 227 ∧ ms_ 221 = false ∧ mn 221 = 1 ∧ mo 221 = 9 := by decide +kernel
theorem mo222 : mo 222 = 11 := by decide +kernel
theorem ml222 : ml 222 = 1 := by decide +kernel
theorem mr222 : mr 222 = (some .int) := by decide +kernel
theorem mj222 : 222 < 227 ∧ ms_ 222 = true ∧ mn 222 = 1 := by decide +kernel
theorem mo223 : mo 223 = 12 := by decide +kernel
theorem ml223 : ml 223 = 3 := by decide +kernel
theorem mr223 : mr 223 = (some .int) := by decide +kernel
theorem mj223 : 223 < 227 ∧ ms_ 223 = true ∧ mn 223 = 3 := by decide +kernel
theorem mo224 : mo 224 = 9 := by decide +kernel
theorem ml224 : ml 224 = 2 := by decide +kernel
theorem mr224 : mr 224 = none := by decide +kernel
theorem mj224 : 224 < 227 ∧ ms_ 224 = true ∧ mn 224 = 2 := by decide +kernel
theorem mo225 : mo 225 = 10 := by decide +kernel
theorem ml225 : ml 225 = 2 := by decide +kernel
theorem mr225 : mr 225 = (some .char) := by decide +kernel
theorem mj225 : 225 < 227 ∧ ms_ 225 = true ∧ mn 225 = 2 := by decide +kernel
theorem mo226 : mo 226 = 9 := by decide +kernel
theorem ml226 : ml 226 = 2 := by decide +kernel
theorem mr226 : mr 226 = (some .char) := by decide +kernel
theorem mj226 : 226 < 227 ∧ ms_ 226 = false ∧ mn 226 = 1 ∧ mo 226 = 9 := by decide +kernel
theorem K0_65 : lkM 0 65 = some (104, 2001) := by decide +kernel
theorem K0_69 : lkM 0 69 = some (102, 2002) := by decide +kernel
theorem K0_73 : lkM 0 73 = some (4, 349) := by decide +kernel
theorem K0_86 : lkM 0 86 = some (10, 763) := by decide +kernel
theorem K0_90 : lkM 0 90 = some (14, 626) := by decide +kernel
theorem K0_94 : lkM 0 94 = some (20, 653) := by decide +kernel
theorem K0_99 : lkM 0 99 = some (15, 630) := by decide +kernel
theorem K0_103 : lkM 0 103 = some (3, 640) := by decide +kernel
theorem K0_107 : lkM 0 107 = some (17, 641) := by decide +kernel
theorem K0_110 : lkM 0 110 = some (19, 649) := by decide +kernel
theorem K0_113 : lkM 0 113 = some (12, 382) := by decide +kernel
theorem K0_116 : lkM 0 116 = some (30, 634) := by decide +kernel
theorem K0_121 : lkM 0 121 = some (32, 635) := by decide +kernel
theorem K0_125 : lkM 0 125 = some (16, 636) := by decide +kernel
theorem K0_131 : lkM 0 131 = some (18, 645) := by decide +kernel
theorem K0_137 : lkM 0 137 = some (5, 657) := by decide +kernel
theorem K0_141 : lkM 0 141 = some (21, 658) := by decide +kernel
theorem K0_145 : lkM 0 145 = some (106, 2005) := by decide +kernel
theorem K0_148 : lkM 0 148 = some (110, 2006) := by decide +kernel
theorem K0_151 : lkM 0 151 = some (24, 776) := by decide +kernel
theorem K0_154 : lkM 0 154 = some (28, 708) := by decide +kernel
theorem K0_158 : lkM 0 158 = some (7, 712) := by decide +kernel
theorem K0_161 : lkM 0 161 = some (29, 713) := by decide +kernel
theorem K1_28 : lkM 1 28 = some (45, 878) := by decide +kernel
theorem K1_35 : lkM 1 35 = some (33, 436) := by decide +kernel
theorem K2_37 : lkM 2 37 = some (35, 484) := by decide +kernel
theorem K2_44 : lkM 2 44 = some (38, 490) := by decide +kernel
theorem K2_64 : lkM 2 64 = some (43, 502) := by decide +kernel
theorem K2_72 : lkM 2 72 = some (39, 494) := by decide +kernel
theorem K2_75 : lkM 2 75 = some (36, 600) := by decide +kernel
theorem K2_78 : lkM 2 78 = some (37, 498) := by decide +kernel
theorem K2_82 : lkM 2 82 = some (221, 506) := by decide +kernel
theorem K2_88 : lkM 2 88 = some (44, 595) := by decide +kernel
theorem K2_91 : lkM 2 91 = some (42, 588) := by decide +kernel
theorem K2_95 : lkM 2 95 = some (41, 591) := by decide +kernel
theorem K2_98 : lkM 2 98 = some (40, 596) := by decide +kernel
theorem K5_47 : lkM 5 47 = some (0, 873) := by decide +kernel
theorem K5_51 : lkM 5 51 = some (31, 874) := by decide +kernel
theorem K5_54 : lkM 5 54 = some (45, 879) := by decide +kernel
theorem K5_65 : lkM 5 65 = some (53, 791) := by decide +kernel
theorem K5_69 : lkM 5 69 = some (106, 2007) := by decide +kernel
theorem K5_73 : lkM 5 73 = some (110, 2008) := by decide +kernel
theorem K6_37 : lkM 6 37 = some (55, 808) := by decide +kernel
theorem K6_41 : lkM 6 41 = some (57, 812) := by decide +kernel
theorem K6_52 : lkM 6 52 = some (44, 819) := by decide +kernel
theorem K6_56 : lkM 6 56 = some (56, 820) := by decide +kernel
theorem K6_60 : lkM 6 60 = some (104, 2009) := by decide +kernel
theorem K7_61 : lkM 7 61 = some (2, 339) := by decide +kernel
theorem K7_65 : lkM 7 65 = some (99, 353) := by decide +kernel
theorem K7_69 : lkM 7 69 = some (103, 363) := by decide +kernel
theorem K7_73 : lkM 7 73 = some (1, 366) := by decide +kernel
theorem K7_79 : lkM 7 79 = some (3, 370) := by decide +kernel
theorem K7_83 : lkM 7 83 = some (102, 357) := by decide +kernel
theorem K7_87 : lkM 7 87 = some (25, 378) := by decide +kernel
theorem K7_91 : lkM 7 91 = some (104, 394) := by decide +kernel
theorem K7_97 : lkM 7 97 = some (109, 395) := by decide +kernel
theorem K7_101 : lkM 7 101 = some (8, 408) := by decide +kernel
theorem K7_104 : lkM 7 104 = some (100, 412) := by decide +kernel
theorem K7_108 : lkM 7 108 = some (9, 439) := by decide +kernel
theorem K7_114 : lkM 7 114 = some (10, 452) := by decide +kernel
theorem K7_136 : lkM 7 136 = some (44, 469) := by decide +kernel
theorem K7_139 : lkM 7 139 = some (105, 477) := by decide +kernel
theorem K7_142 : lkM 7 142 = some (34, 480) := by decide +kernel
theorem K7_159 : lkM 7 159 = some (45, 608) := by decide +kernel
theorem K7_163 : lkM 7 163 = some (30, 416) := by decide +kernel
theorem K7_168 : lkM 7 168 = some (13, 622) := by decide +kernel
theorem K7_172 : lkM 7 172 = some (51, 673) := by decide +kernel
theorem K7_179 : lkM 7 179 = some (106, 668) := by decide +kernel
theorem K7_185 : lkM 7 185 = some (222, 686) := by decide +kernel
theorem K7_190 : lkM 7 190 = some (26, 696) := by decide +kernel
theorem K7_193 : lkM 7 193 = some (27, 704) := by decide +kernel
theorem K7_196 : lkM 7 196 = some (108, 725) := by decide +kernel
theorem K7_199 : lkM 7 199 = some (0, 728) := by decide +kernel
theorem K7_202 : lkM 7 202 = some (14, 740) := by decide +kernel
theorem K7_206 : lkM 7 206 = some (101, 741) := by decide +kernel
theorem K7_212 : lkM 7 212 = some (11, 759) := by decide +kernel
theorem K7_215 : lkM 7 215 = some (7, 424) := by decide +kernel
theorem K7_222 : lkM 7 222 = some (23, 772) := by decide +kernel
theorem K7_231 : lkM 7 231 = some (52, 787) := by decide +kernel
theorem K7_234 : lkM 7 234 = some (54, 804) := by decide +kernel
theorem K7_245 : lkM 7 245 = some (43, 828) := by decide +kernel
theorem K7_249 : lkM 7 249 = some (107, 833) := by decide +kernel
theorem K7_252 : lkM 7 252 = some (47, 836) := by decide +kernel
theorem K7_255 : lkM 7 255 = some (46, 845) := by decide +kernel
theorem K7_258 : lkM 7 258 = some (48, 849) := by decide +kernel
theorem K7_261 : lkM 7 261 = some (49, 853) := by decide +kernel
theorem K7_276 : lkM 7 276 = some (50, 869) := by decide +kernel
theorem K7_282 : lkM 7 282 = some (4, 892) := by decide +kernel
theorem K7_290 : lkM 7 290 = some (6, 428) := by decide +kernel
theorem K7_294 : lkM 7 294 = some (5, 420) := by decide +kernel
theorem K7_297 : lkM 7 297 = some (32, 432) := by decide +kernel
theorem K7_303 : lkM 7 303 = some (20, 746) := by decide +kernel
theorem K7_306 : lkM 7 306 = some (22, 747) := by decide +kernel
theorem K8_77 : lkM 8 77 = some (115, 1298) := by decide +kernel
theorem K8_81 : lkM 8 81 = some (112, 1000) := by decide +kernel
theorem K8_85 : lkM 8 85 = some (118, 1017) := by decide +kernel
theorem K8_88 : lkM 8 88 = some (121, 1013) := by decide +kernel
theorem K8_92 : lkM 8 92 = some (123, 1009) := by decide +kernel
theorem K8_96 : lkM 8 96 = some (119, 1026) := by decide +kernel
theorem K8_100 : lkM 8 100 = some (124, 996) := by decide +kernel
theorem K8_105 : lkM 8 105 = some (111, 1004) := by decide +kernel
theorem K8_109 : lkM 8 109 = some (125, 1022) := by decide +kernel
theorem K8_113 : lkM 8 113 = some (120, 1034) := by decide +kernel
theorem K8_117 : lkM 8 117 = some (127, 1038) := by decide +kernel
theorem K8_121 : lkM 8 121 = some (129, 1054) := by decide +kernel
theorem K8_124 : lkM 8 124 = some (130, 1050) := by decide +kernel
theorem K8_128 : lkM 8 128 = some (131, 1046) := by decide +kernel
theorem K8_131 : lkM 8 131 = some (133, 1061) := by decide +kernel
theorem K8_135 : lkM 8 135 = some (116, 1073) := by decide +kernel
theorem K8_138 : lkM 8 138 = some (135, 1069) := by decide +kernel
theorem K8_142 : lkM 8 142 = some (122, 1085) := by decide +kernel
theorem K8_145 : lkM 8 145 = some (160, 1089) := by decide +kernel
theorem K8_150 : lkM 8 150 = some (138, 1109) := by decide +kernel
theorem K8_153 : lkM 8 153 = some (140, 1118) := by decide +kernel
theorem K8_167 : lkM 8 167 = some (144, 1160) := by decide +kernel
theorem K8_174 : lkM 8 174 = some (148, 1140) := by decide +kernel
theorem K8_177 : lkM 8 177 = some (145, 1168) := by decide +kernel
theorem K8_180 : lkM 8 180 = some (146, 1164) := by decide +kernel
theorem K8_183 : lkM 8 183 = some (149, 1144) := by decide +kernel
theorem K8_186 : lkM 8 186 = some (150, 1148) := by decide +kernel
theorem K8_189 : lkM 8 189 = some (151, 1152) := by decide +kernel
theorem K8_192 : lkM 8 192 = some (153, 1156) := by decide +kernel
theorem K8_198 : lkM 8 198 = some (216, 1176) := by decide +kernel
theorem K8_201 : lkM 8 201 = some (226, 1177) := by decide +kernel
theorem K8_208 : lkM 8 208 = some (147, 1136) := by decide +kernel
theorem K8_211 : lkM 8 211 = some (152, 1172) := by decide +kernel
theorem K8_214 : lkM 8 214 = some (156, 1105) := by decide +kernel
theorem K8_218 : lkM 8 218 = some (157, 1101) := by decide +kernel
theorem K8_221 : lkM 8 221 = some (159, 1093) := by decide +kernel
theorem K8_223 : lkM 8 223 = some (158, 1097) := by decide +kernel
theorem K8_227 : lkM 8 227 = some (114, 1230) := by decide +kernel
theorem K8_235 : lkM 8 235 = some (162, 1226) := by decide +kernel
theorem K8_238 : lkM 8 238 = some (164, 1233) := by decide +kernel
theorem K8_244 : lkM 8 244 = some (163, 1237) := by decide +kernel
theorem K8_249 : lkM 8 249 = some (113, 1253) := by decide +kernel
theorem K8_252 : lkM 8 252 = some (167, 1256) := by decide +kernel
theorem K8_255 : lkM 8 255 = some (165, 1222) := by decide +kernel
theorem K8_258 : lkM 8 258 = some (166, 1244) := by decide +kernel
theorem K8_261 : lkM 8 261 = some (168, 1248) := by decide +kernel
theorem K8_264 : lkM 8 264 = some (169, 1218) := by decide +kernel
theorem K8_268 : lkM 8 268 = some (171, 1209) := by decide +kernel
theorem K8_271 : lkM 8 271 = some (170, 1214) := by decide +kernel
theorem K8_275 : lkM 8 275 = some (173, 1263) := by decide +kernel
theorem K8_278 : lkM 8 278 = some (176, 1276) := by decide +kernel
theorem K8_281 : lkM 8 281 = some (179, 1287) := by decide +kernel
theorem K8_284 : lkM 8 284 = some (181, 1295) := by decide +kernel
theorem K8_287 : lkM 8 287 = some (117, 1301) := by decide +kernel
theorem K8_290 : lkM 8 290 = some (184, 1313) := by decide +kernel
theorem K8_294 : lkM 8 294 = some (190, 1333) := by decide +kernel
theorem K8_297 : lkM 8 297 = some (192, 1348) := by decide +kernel
theorem K8_300 : lkM 8 300 = some (193, 1344) := by decide +kernel
theorem K8_309 : lkM 8 309 = some (199, 1364) := by decide +kernel
theorem K8_312 : lkM 8 312 = some (197, 1368) := by decide +kernel
theorem K8_318 : lkM 8 318 = some (200, 1371) := by decide +kernel
theorem K8_321 : lkM 8 321 = some (196, 1375) := by decide +kernel
theorem K8_324 : lkM 8 324 = some (198, 1360) := by decide +kernel
theorem K8_328 : lkM 8 328 = some (203, 1388) := by decide +kernel
theorem K9_335 : lkM 9 335 = some (215, 524) := by decide +kernel
theorem K9_492 : lkM 9 492 = some (214, 514) := by decide +kernel
theorem K9_495 : lkM 9 495 = some (225, 1181) := by decide +kernel
theorem K9_505 : lkM 9 505 = some (216, 520) := by decide +kernel
theorem K9_633 : lkM 9 633 = some (220, 510) := by decide +kernel
theorem K9_637 : lkM 9 637 = some (219, 528) := by decide +kernel
theorem K9_1059 : lkM 9 1059 = some (223, 1187) := by decide +kernel
theorem K10_9 : lkM 10 9 = some (224, 1184) := by decide +kernel
theorem K10_88 : lkM 10 88 = some (217, 531) := by decide +kernel
theorem K10_95 : lkM 10 95 = some (218, 536) := by decide +kernel
theorem F0_9 : lkF 0 9 = some (0, 0, 107) := by decide +kernel
theorem F0_15 : lkF 0 15 = some (0, 1, 109) := by decide +kernel
theorem F0_18 : lkF 0 18 = some (0, 2, 111) := by decide +kernel
theorem F0_21 : lkF 0 21 = some (0, 3, 113) := by decide +kernel
theorem F0_24 : lkF 0 24 = some (0, 4, 115) := by decide +kernel
theorem F0_27 : lkF 0 27 = some (0, 5, 116) := by decide +kernel
theorem F0_31 : lkF 0 31 = some (0, 6, 118) := by decide +kernel
theorem F0_34 : lkF 0 34 = some (0, 7, 120) := by decide +kernel
theorem F0_37 : lkF 0 37 = some (0, 8, 122) := by decide +kernel
theorem F0_40 : lkF 0 40 = some (0, 9, 123) := by decide +kernel
theorem F0_43 : lkF 0 43 = some (0, 10, 125) := by decide +kernel
theorem F0_47 : lkF 0 47 = some (0, 11, 126) := by decide +kernel
theorem F0_50 : lkF 0 50 = some (0, 12, 128) := by decide +kernel
theorem F0_53 : lkF 0 53 = some (0, 13, 129) := by decide +kernel
theorem F1_11 : lkF 1 11 = some (1, 0, 194) := by decide +kernel
theorem F1_17 : lkF 1 17 = some (1, 1, 196) := by decide +kernel
theorem F1_24 : lkF 1 24 = some (3, 1, 184) := by decide +kernel
theorem F1_32 : lkF 1 32 = some (3, 0, 179) := by decide +kernel
theorem F2_14 : lkF 2 14 = some (2, 0, 244) := by decide +kernel
theorem F2_20 : lkF 2 20 = some (2, 1, 246) := by decide +kernel
theorem F2_25 : lkF 2 25 = some (2, 2, 247) := by decide +kernel
theorem F2_29 : lkF 2 29 = some (2, 3, 248) := by decide +kernel
theorem F2_33 : lkF 2 33 = some (2, 4, 249) := by decide +kernel
theorem F2_41 : lkF 2 41 = some (3, 1, 186) := by decide +kernel
theorem F2_68 : lkF 2 68 = some (3, 0, 181) := by decide +kernel
theorem F3_13 : lkF 3 13 = some (3, 0, 178) := by decide +kernel
theorem F3_19 : lkF 3 19 = some (3, 1, 183) := by decide +kernel
theorem F4_9 : lkF 4 9 = some (4, 0, 295) := by decide +kernel
theorem F4_15 : lkF 4 15 = some (4, 1, 297) := by decide +kernel
theorem F4_19 : lkF 4 19 = some (4, 2, 299) := by decide +kernel
theorem F5_12 : lkF 5 12 = some (5, 0, 204) := by decide +kernel
theorem F5_21 : lkF 5 21 = some (5, 1, 206) := by decide +kernel
theorem F5_30 : lkF 5 30 = some (5, 2, 208) := by decide +kernel
theorem F5_34 : lkF 5 34 = some (5, 3, 210) := by decide +kernel
theorem F5_37 : lkF 5 37 = some (5, 4, 212) := by decide +kernel
theorem F5_40 : lkF 5 40 = some (5, 5, 214) := by decide +kernel
theorem F5_43 : lkF 5 43 = some (5, 6, 216) := by decide +kernel
theorem F5_58 : lkF 5 58 = some (3, 1, 187) := by decide +kernel
theorem F5_61 : lkF 5 61 = some (3, 0, 180) := by decide +kernel
theorem F6_14 : lkF 6 14 = some (6, 0, 270) := by decide +kernel
theorem F6_20 : lkF 6 20 = some (6, 1, 272) := by decide +kernel
theorem F6_24 : lkF 6 24 = some (6, 2, 274) := by decide +kernel
theorem F6_28 : lkF 6 28 = some (6, 3, 275) := by decide +kernel
theorem F6_31 : lkF 6 31 = some (6, 4, 276) := by decide +kernel
theorem F6_34 : lkF 6 34 = some (3, 1, 185) := by decide +kernel
theorem F7_10 : lkF 7 10 = some (7, 0, 307) := by decide +kernel
theorem F7_16 : lkF 7 16 = some (7, 1, 308) := by decide +kernel
theorem F7_22 : lkF 7 22 = some (7, 2, 309) := by decide +kernel
theorem F7_29 : lkF 7 29 = some (7, 3, 310) := by decide +kernel
theorem F7_36 : lkF 7 36 = some (7, 4, 311) := by decide +kernel
theorem F7_42 : lkF 7 42 = some (7, 5, 312) := by decide +kernel
theorem F7_47 : lkF 7 47 = some (7, 6, 313) := by decide +kernel
theorem F7_51 : lkF 7 51 = some (7, 7, 314) := by decide +kernel
theorem F7_54 : lkF 7 54 = some (7, 8, 315) := by decide +kernel
theorem F7_58 : lkF 7 58 = some (5, 0, 205) := by decide +kernel
theorem F7_76 : lkF 7 76 = some (0, 1, 110) := by decide +kernel
theorem F7_94 : lkF 7 94 = some (0, 0, 108) := by decide +kernel
theorem F7_111 : lkF 7 111 = some (0, 3, 114) := by decide +kernel
theorem F7_118 : lkF 7 118 = some (0, 2, 112) := by decide +kernel
theorem F7_124 : lkF 7 124 = some (0, 6, 119) := by decide +kernel
theorem F7_127 : lkF 7 127 = some (5, 2, 209) := by decide +kernel
theorem F7_131 : lkF 7 131 = some (3, 1, 188) := by decide +kernel
theorem F7_146 : lkF 7 146 = some (5, 1, 207) := by decide +kernel
theorem F7_150 : lkF 7 150 = some (1, 0, 195) := by decide +kernel
theorem F7_156 : lkF 7 156 = some (2, 0, 245) := by decide +kernel
theorem F7_164 : lkF 7 164 = some (0, 13, 130) := by decide +kernel
theorem F7_176 : lkF 7 176 = some (5, 6, 217) := by decide +kernel
theorem F7_182 : lkF 7 182 = some (0, 7, 121) := by decide +kernel
theorem F7_209 : lkF 7 209 = some (0, 11, 127) := by decide +kernel
theorem F7_218 : lkF 7 218 = some (0, 5, 117) := by decide +kernel
theorem F7_225 : lkF 7 225 = some (5, 3, 211) := by decide +kernel
theorem F7_228 : lkF 7 228 = some (5, 4, 213) := by decide +kernel
theorem F7_238 : lkF 7 238 = some (6, 1, 273) := by decide +kernel
theorem F7_242 : lkF 7 242 = some (6, 0, 271) := by decide +kernel
theorem F7_246 : lkF 7 246 = some (3, 0, 182) := by decide +kernel
theorem F7_264 : lkF 7 264 = some (4, 1, 298) := by decide +kernel
theorem F7_267 : lkF 7 267 = some (4, 0, 296) := by decide +kernel
theorem F7_279 : lkF 7 279 = some (5, 5, 215) := by decide +kernel
theorem F7_300 : lkF 7 300 = some (0, 9, 124) := by decide +kernel
theorem F8_9 : lkF 8 9 = some (8, 0, 913) := by decide +kernel
theorem F8_13 : lkF 8 13 = some (8, 1, 914) := by decide +kernel
theorem F8_16 : lkF 8 16 = some (8, 2, 915) := by decide +kernel
theorem F8_19 : lkF 8 19 = some (8, 4, 917) := by decide +kernel
theorem F8_22 : lkF 8 22 = some (8, 5, 918) := by decide +kernel
theorem F8_25 : lkF 8 25 = some (8, 6, 919) := by decide +kernel
theorem F8_28 : lkF 8 28 = some (8, 7, 920) := by decide +kernel
theorem F8_39 : lkF 8 39 = some (8, 8, 921) := by decide +kernel
theorem F8_43 : lkF 8 43 = some (8, 13, 926) := by decide +kernel
theorem F8_46 : lkF 8 46 = some (8, 15, 928) := by decide +kernel
theorem F8_49 : lkF 8 49 = some (8, 16, 929) := by decide +kernel
theorem F8_52 : lkF 8 52 = some (8, 18, 931) := by decide +kernel
theorem F8_55 : lkF 8 55 = some (8, 22, 935) := by decide +kernel
theorem F8_58 : lkF 8 58 = some (8, 23, 936) := by decide +kernel
theorem F8_61 : lkF 8 61 = some (8, 24, 937) := by decide +kernel
theorem F8_64 : lkF 8 64 = some (8, 25, 938) := by decide +kernel
theorem F8_159 : lkF 8 159 = some (8, 12, 925) := by decide +kernel
theorem F8_163 : lkF 8 163 = some (8, 9, 922) := by decide +kernel
theorem F8_171 : lkF 8 171 = some (8, 14, 927) := by decide +kernel
theorem F8_195 : lkF 8 195 = some (8, 11, 924) := by decide +kernel
theorem F8_205 : lkF 8 205 = some (8, 10, 923) := by decide +kernel
theorem F8_241 : lkF 8 241 = some (8, 17, 930) := by decide +kernel
theorem F8_303 : lkF 8 303 = some (8, 19, 932) := by decide +kernel
theorem F8_306 : lkF 8 306 = some (8, 20, 933) := by decide +kernel
theorem F8_315 : lkF 8 315 = some (8, 21, 934) := by decide +kernel
theorem F8_331 : lkF 8 331 = some (8, 3, 916) := by decide +kernel
theorem F9_9 : lkF 9 9 = some (9, 0, 1429) := by decide +kernel
theorem F9_15 : lkF 9 15 = some (9, 1, 1428) := by decide +kernel
theorem S0_56 : lkS 0 56 = some (109, 2000) := by decide +kernel
theorem S0_128 : lkS 0 128 = some (105, 2003) := by decide +kernel
theorem S0_134 : lkS 0 134 = some (106, 2004) := by decide +kernel
theorem S6_45 : lkS 6 45 = some (104, 2011) := by decide +kernel
theorem S6_49 : lkS 6 49 = some (108, 2010) := by decide +kernel
theorem S7_121 : lkS 7 121 = some (107, 463) := by decide +kernel
theorem S7_309 : lkS 7 309 = some (104, 398) := by decide +kernel
theorem S9_38 : lkS 9 38 = some (200, 518) := by decide +kernel
theorem S9_1053 : lkS 9 1053 = some (201, 557) := by decide +kernel
theorem C0_98 : lkC 0 98 = some (.int 1999999999, 639) := by decide +kernel
theorem C2_23 : lkC 2 23 = some (.ref 110, 3000) := by decide +kernel
theorem C2_48 : lkC 2 48 = some (.ref 111, 3001) := by decide +kernel
theorem C2_50 : lkC 2 50 = some (.ref 112, 3002) := by decide +kernel
theorem C2_52 : lkC 2 52 = some (.ref 113, 3003) := by decide +kernel
theorem C2_54 : lkC 2 54 = some (.ref 114, 3004) := by decide +kernel
theorem C2_56 : lkC 2 56 = some (.ref 115, 3005) := by decide +kernel
theorem C2_58 : lkC 2 58 = some (.ref 116, 3006) := by decide +kernel
theorem C2_60 : lkC 2 60 = some (.ref 117, 3007) := by decide +kernel
theorem C2_62 : lkC 2 62 = some (.ref 118, 3008) := by decide +kernel
theorem C5_57 : lkC 5 57 = some (.int 1103515245, 677) := by decide +kernel
theorem C7_167 : lkC 7 167 = some (.int 99999, 621) := by decide +kernel
theorem C7_293 : lkC 7 293 = some (.int (-1000000), 358) := by decide +kernel
theorem C8_33 : lkC 8 33 = some (.ref 119, 3009) := by decide +kernel
theorem C8_35 : lkC 8 35 = some (.ref 120, 3010) := by decide +kernel
theorem C8_37 : lkC 8 37 = some (.ref 121, 3011) := by decide +kernel
theorem C8_67 : lkC 8 67 = some (.int (-1000000), 1008) := by decide +kernel
theorem C8_104 : lkC 8 104 = some (.int (-1000001), 1003) := by decide +kernel
theorem C8_108 : lkC 8 108 = some (.int (-1000004), 1021) := by decide +kernel
theorem C8_116 : lkC 8 116 = some (.int (-1000002), 1037) := by decide +kernel
theorem C8_134 : lkC 8 134 = some (.int (-1000005), 1064) := by decide +kernel
theorem C8_149 : lkC 8 149 = some (.int (-1000003), 1108) := by decide +kernel
theorem C8_267 : lkC 8 267 = some (.int 99999, 1213) := by decide +kernel
theorem C8_274 : lkC 8 274 = some (.int 1103515245, 1267) := by decide +kernel
theorem C8_327 : lkC 8 327 = some (.int (-1000006), 1379) := by decide +kernel
theorem C11_265 : lkC 11 265 = some (.int 1431655765, 689) := by decide +kernel
theorem C11_266 : lkC 11 266 = some (.int 858993459, 690) := by decide +kernel
theorem C11_267 : lkC 11 267 = some (.int 252645135, 691) := by decide +kernel
theorem L8_157 : lkL 8 157 = some (255, 1131) := by decide +kernel
theorem L8_230 : lkL 8 230 = some (1999999999, 1240) := by decide +kernel
theorem L8_247 : lkL 8 247 = some (100, 1252) := by decide +kernel
