theorem pq_ph33 : True := trivial
